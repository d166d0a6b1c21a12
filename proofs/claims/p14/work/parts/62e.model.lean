/-! ===== the model: methods (by program) ===== -/
set_option maxRecDepth 20000 in
set_option maxHeartbeats 4000000 in
theorem mm_readMore (d : Nat) {ty : Nat → Nat} {h : gH} (hJ : gJ rT 1027 ty h) (m : Nat) (tm : ty m = 1) (b : Int) (rb : 0 ≤ b ∧ b ≤ 2) (p : Int) (rp : 0 ≤ p ∧ p ≤ 12224) (a0 : Int) (ea0 : h.2.2.2.2 m 47 = .int (zi a0)) (ra0 : 0 ≤ a0 ∧ a0 ≤ 2001) (k0 : Int) (ek0 : h.2.2.2.2 m 48 = .int (zi k0)) (rk0 : 0 ≤ k0 ∧ k0 ≤ 7) (sz : Int) (esz : h.2.2.2.2 m 3 = .int (zi sz)) (rsz : 0 ≤ sz ∧ sz ≤ 2000) (u0 : Int) (eu0 : h.2.2.2.2 m 46 = .int (zi u0)) (ru0 : 0 ≤ u0 ∧ u0 ≤ 1) (lw : Int) (elw : h.2.2.2.2 m 44 = .int (zi lw)) (rlw : 0 ≤ lw ∧ lw ≤ 13) (fr : Int) (efr : h.2.2.2.2 m 41 = .int (zi fr)) (rfr : 1 ≤ fr ∧ fr ≤ 63) (tt : Int) (ett : h.2.2.2.2 m 42 = .int (zi tt)) (rtt : 1 ≤ tt ∧ tt ≤ 63) (p0 : k0 = 0 ∨ a0 < sz) (el0 : gEl ty 22 b 4 7 h) : gz gPP gGG gcn (d + 5) gt161 0 (gent [.ref m, .int (zi b), .int (zi p)] 10) [] h (fun q _ => gSs rT 1027 ty [1045, 1046, 1047, 1048, 20999, 23999] h q.2.2 ∧ ∃ a1 k1 u1 : Int, gfin gt161 q.1 q.2.1 = some none ∧ q.2.2.2.2.2.2 m 47 = .int (zi a1) ∧ 0 ≤ a1 ∧ a1 ≤ 2001 ∧ q.2.2.2.2.2.2 m 48 = .int (zi k1) ∧ 0 ≤ k1 ∧ k1 ≤ 7 ∧ q.2.2.2.2.2.2 m 46 = .int (zi u1) ∧ 0 ≤ u1 ∧ u1 ≤ 1 ∧ (k1 = 0 ∨ a1 < sz) ∧ (a0 ≤ a1) ∧ (u1 = 0 → u0 = 0)) := by
  have hS : gSs rT 1027 ty [1045, 1046, 1047, 1048, 20999, 23999] h h := gSs.rf hJ
  refine gz_s 1 (pc' := 1) (L' := [some (.ref m), some (.int (zi b)), some (.int (zi p)), none, none, none, none, none, none, none]) (S' := [.ref m]) rfl ?_
  refine gs_gtk rfl (by decide) rfl hS.1 tm rfl rfl efr ?_
  refine gz_s 1 (pc' := 5) (L' := [some (.ref m), some (.int (zi b)), some (.int (zi p)), some (.int (zi fr)), none, none, none, none, none, none]) (S' := []) rfl ?_
  obtain ⟨z1, ez1, az1, bz1⟩ := gJ.int (k := 45) (G := gGG) hS.1 tm rfl rfl rfl
  have lp2 : ∀ (fu : Nat) (h3 : gH) (k : Int) (av : Int) (kv : Int) (uv : Int) (rv : Int), (if rv = 0 then 102 - k else 0).toNat < fu → gSs rT 1027 ty [1045, 1046, 1047, 1048, 20999, 23999] h h3 → (1 ≤ k ∧ k ≤ 66) → (0 ≤ av ∧ av ≤ 2001) → (0 ≤ kv ∧ kv ≤ 7) → (0 ≤ uv ∧ uv ≤ 1) → ((-2147483648) ≤ rv ∧ rv ≤ 2147483647) → (kv = 0 ∨ av < sz) → (a0 ≤ av) → (uv = 0 → u0 = 0) → h3.2.2.2.2 m 3 = .int (zi sz) → h3.2.2.2.2 m 44 = .int (zi lw) → h3.2.2.2.2 m 41 = .int (zi fr) → h3.2.2.2.2 m 42 = .int (zi tt) → h3.2.2.2.2 m 47 = .int (zi av) → h3.2.2.2.2 m 48 = .int (zi kv) → h3.2.2.2.2 m 46 = .int (zi uv) → h3.2.2.2.2 m 45 = .int (zi rv) → gEl ty 22 b 4 7 h3 → gz gPP gGG gcn (d + 5) gt161 5 [some (.ref m), some (.int (zi b)), some (.int (zi p)), some (.int (zi k)), none, none, none, none, none, none] [] h3 (fun q _ => gSs rT 1027 ty [1045, 1046, 1047, 1048, 20999, 23999] h q.2.2 ∧ ∃ a1 k1 u1 : Int, gfin gt161 q.1 q.2.1 = some none ∧ q.2.2.2.2.2.2 m 47 = .int (zi a1) ∧ 0 ≤ a1 ∧ a1 ≤ 2001 ∧ q.2.2.2.2.2.2 m 48 = .int (zi k1) ∧ 0 ≤ k1 ∧ k1 ≤ 7 ∧ q.2.2.2.2.2.2 m 46 = .int (zi u1) ∧ 0 ≤ u1 ∧ u1 ≤ 1 ∧ (k1 = 0 ∨ a1 < sz) ∧ (a0 ≤ a1) ∧ (u1 = 0 → u0 = 0)) := by
    intro fu
    induction fu with
    | zero => intro h3 k av kv uv rv hm; exact absurd hm (Nat.not_lt_zero _)
    | succ fu ihlp2 =>
      intro h3 k av kv uv rv lp2m sh3 lp2f0 lp2f1 lp2f2 lp2f3 lp2f4 lp2f5 lp2f6 lp2f7 lp2k0 lp2k1 lp2k2 lp2k3 lp2k4 lp2k5 lp2k6 lp2k7 lp2k8
      refine gz_s 1 (pc' := 6) (L' := [some (.ref m), some (.int (zi b)), some (.int (zi p)), some (.int (zi k)), none, none, none, none, none, none]) (S' := [.ref m]) rfl ?_
      refine gs_gtk rfl (by decide) rfl sh3.1 tm rfl rfl lp2k7 ?_
      by_cases hc4 : ¬ (rv : Int) = 0
      · refine gy_ifT (pc' := 295) rfl (by decide) (by decide) (by omega) hc4 ?_
        refine gz_s 1 (pc' := 296) (L' := [some (.ref m), some (.int (zi b)), some (.int (zi p)), some (.int (zi k)), none, none, none, none, none, none]) (S' := [.ref m]) rfl ?_
        refine gs_gtk rfl (by decide) rfl sh3.1 tm rfl rfl lp2k7 ?_
        by_cases hc5 : (rv : Int) ≤ 0
        · refine gy_ifT (pc' := 371) rfl (by decide) (by decide) (by omega) hc5 ?_
          exact gz_end (I := .return_) (len := 1) rfl (Or.inl rfl) ⟨sh3, av, kv, uv, rfl, lp2k4, (by omega), (by omega), lp2k5, (by omega), (by omega), lp2k6, (by omega), (by omega), (by omega), (by omega), (by omega)⟩
        · refine gy_ifF rfl (by decide) (by decide) (by omega) hc5 ?_
          refine gz_s 2 (pc' := 305) (L' := [some (.ref m), some (.int (zi b)), some (.int (zi p)), some (.int (zi k)), some (.int (zi k)), none, none, none, none, none]) (S' := []) rfl ?_
          have lp6 : ∀ (fu : Nat) (h7 : gH) (ii : Int) (av : Int) (kv : Int) (uv : Int), (101 - ii).toNat < fu → gSs rT 1027 ty [1045, 1046, 1047, 1048, 20999, 23999] h h7 → (1 ≤ ii ∧ ii ≤ 70) → (0 ≤ av ∧ av ≤ 2001) → (0 ≤ kv ∧ kv ≤ 7) → (0 ≤ uv ∧ uv ≤ 1) → (kv = 0 ∨ av < sz) → (a0 ≤ av) → (uv = 0 → u0 = 0) → h7.2.2.2.2 m 3 = .int (zi sz) → h7.2.2.2.2 m 44 = .int (zi lw) → h7.2.2.2.2 m 41 = .int (zi fr) → h7.2.2.2.2 m 42 = .int (zi tt) → h7.2.2.2.2 m 45 = .int (zi rv) → h7.2.2.2.2 m 47 = .int (zi av) → h7.2.2.2.2 m 48 = .int (zi kv) → h7.2.2.2.2 m 46 = .int (zi uv) → gEl ty 22 b 4 7 h7 → gz gPP gGG gcn (d + 5) gt161 305 [some (.ref m), some (.int (zi b)), some (.int (zi p)), some (.int (zi k)), some (.int (zi ii)), none, none, none, none, none] [] h7 (fun q _ => gSs rT 1027 ty [1045, 1046, 1047, 1048, 20999, 23999] h q.2.2 ∧ ∃ a1 k1 u1 : Int, gfin gt161 q.1 q.2.1 = some none ∧ q.2.2.2.2.2.2 m 47 = .int (zi a1) ∧ 0 ≤ a1 ∧ a1 ≤ 2001 ∧ q.2.2.2.2.2.2 m 48 = .int (zi k1) ∧ 0 ≤ k1 ∧ k1 ≤ 7 ∧ q.2.2.2.2.2.2 m 46 = .int (zi u1) ∧ 0 ≤ u1 ∧ u1 ≤ 1 ∧ (k1 = 0 ∨ a1 < sz) ∧ (a0 ≤ a1) ∧ (u1 = 0 → u0 = 0)) := by
            intro fu
            induction fu with
            | zero => intro h7 ii av kv uv hm; exact absurd hm (Nat.not_lt_zero _)
            | succ fu ihlp6 =>
              intro h7 ii av kv uv lp6m sh7 lp6f0 lp6f1 lp6f2 lp6f3 lp6f4 lp6f5 lp6f6 lp6k0 lp6k1 lp6k2 lp6k3 lp6k4 lp6k5 lp6k6 lp6k7 lp6k8
              refine gz_s 2 (pc' := 308) (L' := [some (.ref m), some (.int (zi b)), some (.int (zi p)), some (.int (zi k)), some (.int (zi ii)), none, none, none, none, none]) (S' := [.ref m, .int (zi ii)]) rfl ?_
              refine gs_gtk rfl (by decide) rfl sh7.1 tm rfl rfl lp6k3 ?_
              by_cases hc8 : (tt : Int) < ii
              · refine gy_icT (pc' := 347) rfl (by decide) (by decide) (by omega) (by omega) hc8 ?_
                refine gz_s 2 (pc' := 349) (L' := [some (.ref m), some (.int (zi b)), some (.int (zi p)), some (.int (zi k)), some (.int (zi ii)), none, none, none, none, none]) (S' := [.ref m, .ref m]) rfl ?_
                refine gs_gtk rfl (by decide) rfl sh7.1 tm rfl rfl lp6k7 ?_
                by_cases hc9 : (uv : Int) = 0
                · refine gy_ifT (pc' := 362) rfl (by decide) (by decide) (by omega) hc9 ?_
                  refine gz_s 1 (pc' := 363) (L' := [some (.ref m), some (.int (zi b)), some (.int (zi p)), some (.int (zi k)), some (.int (zi ii)), none, none, none, none, none]) (S' := [.ref m, .ref m]) rfl ?_
                  refine gs_gtk rfl (by decide) rfl sh7.1 tm rfl rfl lp6k4 ?_
                  refine gy_s 2 (pc' := 368) (L' := [some (.ref m), some (.int (zi b)), some (.int (zi p)), some (.int (zi k)), some (.int (zi ii)), none, none, none, none, none]) (S' := [.int ((zi rv) - (zi 1)), .ref m]) (L2 := [some (.ref m), some (.int (zi b)), some (.int (zi p)), some (.int (zi k)), some (.int (zi ii)), none, none, none, none, none]) (S2 := [.int (zi (rv - 1)), .ref m]) rfl (by simp only [zi_add, zi_sub, zi_mul, zi_neg, zi_and1, zi_and7, zi_and15, zi_and31, zi_and255]) (by simp only [zi_add, zi_sub, zi_mul, zi_neg, zi_and1, zi_and7, zi_and15, zi_and31, zi_and255]) ?_
                  refine gs_put rfl (by decide) rfl sh7 tm rfl rfl rfl rfl (Or.inl rfl) (by decide) (by omega) (by omega) (fun h10 sh10 eh10 fh10 => ?_)
                  have pr11 := gEl.pt fh10 tm (by decide) lp6k8
                  have s12 := (fh10 m 3 (fun q => absurd q.2 (by decide))).trans lp6k0
                  have s13 := (fh10 m 44 (fun q => absurd q.2 (by decide))).trans lp6k1
                  have s14 := (fh10 m 41 (fun q => absurd q.2 (by decide))).trans lp6k2
                  have s15 := (fh10 m 42 (fun q => absurd q.2 (by decide))).trans lp6k3
                  have s16 := (fh10 m 47 (fun q => absurd q.2 (by decide))).trans lp6k5
                  have s17 := (fh10 m 48 (fun q => absurd q.2 (by decide))).trans lp6k6
                  have s18 := (fh10 m 46 (fun q => absurd q.2 (by decide))).trans lp6k7
                  exact gz_end (I := .return_) (len := 1) rfl (Or.inl rfl) ⟨sh10, av, kv, uv, rfl, s16, (by omega), (by omega), s17, (by omega), (by omega), s18, (by omega), (by omega), (by omega), (by omega), (by omega)⟩
                · refine gy_ifF rfl (by decide) (by decide) (by omega) hc9 ?_
                  refine gz_s 1 (pc' := 356) (L' := [some (.ref m), some (.int (zi b)), some (.int (zi p)), some (.int (zi k)), some (.int (zi ii)), none, none, none, none, none]) (S' := [.ref m, .ref m]) rfl ?_
                  refine gs_gtk rfl (by decide) rfl sh7.1 tm rfl rfl lp6k4 ?_
                  refine gz_s 1 (pc' := 368) (L' := [some (.ref m), some (.int (zi b)), some (.int (zi p)), some (.int (zi k)), some (.int (zi ii)), none, none, none, none, none]) (S' := [.int (zi rv), .ref m]) rfl ?_
                  refine gs_put rfl (by decide) rfl sh7 tm rfl rfl rfl rfl (Or.inl rfl) (by decide) (by omega) (by omega) (fun h19 sh19 eh19 fh19 => ?_)
                  have pr20 := gEl.pt fh19 tm (by decide) lp6k8
                  have s21 := (fh19 m 3 (fun q => absurd q.2 (by decide))).trans lp6k0
                  have s22 := (fh19 m 44 (fun q => absurd q.2 (by decide))).trans lp6k1
                  have s23 := (fh19 m 41 (fun q => absurd q.2 (by decide))).trans lp6k2
                  have s24 := (fh19 m 42 (fun q => absurd q.2 (by decide))).trans lp6k3
                  have s25 := (fh19 m 47 (fun q => absurd q.2 (by decide))).trans lp6k5
                  have s26 := (fh19 m 48 (fun q => absurd q.2 (by decide))).trans lp6k6
                  have s27 := (fh19 m 46 (fun q => absurd q.2 (by decide))).trans lp6k7
                  exact gz_end (I := .return_) (len := 1) rfl (Or.inl rfl) ⟨sh19, av, kv, uv, rfl, s25, (by omega), (by omega), s26, (by omega), (by omega), s27, (by omega), (by omega), (by omega), (by omega), (by omega)⟩
              · refine gy_icF rfl (by decide) (by decide) (by omega) (by omega) hc8 ?_
                refine gz_s 1 (pc' := 315) (L' := [some (.ref m), some (.int (zi b)), some (.int (zi p)), some (.int (zi k)), some (.int (zi ii)), none, none, none, none, none]) (S' := [.ref m]) rfl ?_
                refine gs_gtk rfl (by decide) rfl sh7.1 tm rfl rfl lp6k7 ?_
                by_cases hc28 : ¬ (uv : Int) = 0
                · refine gy_ifT (pc' := 347) rfl (by decide) (by decide) (by omega) hc28 ?_
                  refine gz_s 2 (pc' := 349) (L' := [some (.ref m), some (.int (zi b)), some (.int (zi p)), some (.int (zi k)), some (.int (zi ii)), none, none, none, none, none]) (S' := [.ref m, .ref m]) rfl ?_
                  refine gs_gtk rfl (by decide) rfl sh7.1 tm rfl rfl lp6k7 ?_
                  refine gy_ifF rfl (by decide) (by decide) (by omega) (by first | (simp [zc]; done) | (simp only [zc]; omega)) ?_
                  refine gz_s 1 (pc' := 356) (L' := [some (.ref m), some (.int (zi b)), some (.int (zi p)), some (.int (zi k)), some (.int (zi ii)), none, none, none, none, none]) (S' := [.ref m, .ref m]) rfl ?_
                  refine gs_gtk rfl (by decide) rfl sh7.1 tm rfl rfl lp6k4 ?_
                  refine gz_s 1 (pc' := 368) (L' := [some (.ref m), some (.int (zi b)), some (.int (zi p)), some (.int (zi k)), some (.int (zi ii)), none, none, none, none, none]) (S' := [.int (zi rv), .ref m]) rfl ?_
                  refine gs_put rfl (by decide) rfl sh7 tm rfl rfl rfl rfl (Or.inl rfl) (by decide) (by omega) (by omega) (fun h29 sh29 eh29 fh29 => ?_)
                  have pr30 := gEl.pt fh29 tm (by decide) lp6k8
                  have s31 := (fh29 m 3 (fun q => absurd q.2 (by decide))).trans lp6k0
                  have s32 := (fh29 m 44 (fun q => absurd q.2 (by decide))).trans lp6k1
                  have s33 := (fh29 m 41 (fun q => absurd q.2 (by decide))).trans lp6k2
                  have s34 := (fh29 m 42 (fun q => absurd q.2 (by decide))).trans lp6k3
                  have s35 := (fh29 m 47 (fun q => absurd q.2 (by decide))).trans lp6k5
                  have s36 := (fh29 m 48 (fun q => absurd q.2 (by decide))).trans lp6k6
                  have s37 := (fh29 m 46 (fun q => absurd q.2 (by decide))).trans lp6k7
                  exact gz_end (I := .return_) (len := 1) rfl (Or.inl rfl) ⟨sh29, av, kv, uv, rfl, s35, (by omega), (by omega), s36, (by omega), (by omega), s37, (by omega), (by omega), (by omega), (by omega), (by omega)⟩
                · refine gy_ifF rfl (by decide) (by decide) (by omega) hc28 ?_
                  refine gz_s 1 (pc' := 322) (L' := [some (.ref m), some (.int (zi b)), some (.int (zi p)), some (.int (zi k)), some (.int (zi ii)), none, none, none, none, none]) (S' := [.ref m]) rfl ?_
                  refine gs_gtr rfl (by decide) rfl sh7.1 tm rfl rfl rfl (fun c38 ec38 tc38 => ?_)
                  refine gy_s 3 (pc' := 329) (L' := [some (.ref m), some (.int (zi b)), some (.int (zi p)), some (.int (zi k)), some (.int (zi ii)), none, none, none, none, none]) (S' := [.int ((zi p) + (zi ii)), .ref c38]) (L2 := [some (.ref m), some (.int (zi b)), some (.int (zi p)), some (.int (zi k)), some (.int (zi ii)), none, none, none, none, none]) (S2 := [.int (zi (p + ii)), .ref c38]) rfl (by simp only [zi_add, zi_sub, zi_mul, zi_neg, zi_and1, zi_and7, zi_and15, zi_and31, zi_and255]) (by simp only [zi_add, zi_sub, zi_mul, zi_neg, zi_and1, zi_and7, zi_and15, zi_and31, zi_and255]) ?_
                  have hl39 : 12288 ≤ h7.2.2.2.1 c38 ∧ h7.2.2.2.1 c38 ≤ 12288 := gJ.rowl (G := gGG) sh7.1 tc38 rfl
                  refine gs_ald rfl (by decide) sh7.1 tc38 rfl rfl rfl (by decide) (fun _ => rfl) (by omega) (by omega) (fun z40 ez40 az40 bz40 => ?_)
                  by_cases hc41 : (z40 : Int) = 0
                  · refine gy_ifT (pc' := 341) rfl (by decide) (by decide) (by omega) hc41 ?_
                    refine gy_s 2 (pc' := 305) (L' := [some (.ref m), some (.int (zi b)), some (.int (zi p)), some (.int (zi k)), some (.int ((zi ii) + zi 1)), none, none, none, none, none]) (S' := []) (L2 := [some (.ref m), some (.int (zi b)), some (.int (zi p)), some (.int (zi k)), some (.int (zi (ii + 1))), none, none, none, none, none]) (S2 := []) rfl (by simp only [zi_add, zi_sub, zi_mul, zi_neg, zi_and1, zi_and7, zi_and15, zi_and31, zi_and255]) (by simp only [zi_add, zi_sub, zi_mul, zi_neg, zi_and1, zi_and7, zi_and15, zi_and31, zi_and255]) ?_
                    exact gz_wk (ihlp6 h7 (ii + 1) av kv uv (by omega) sh7 (by omega) (by omega) (by omega) (by omega) (by omega) (by omega) (by omega) lp6k0 lp6k1 lp6k2 lp6k3 lp6k4 lp6k5 lp6k6 lp6k7 lp6k8) (gLw.s (gLw.s (gLw.s (gLw.s (gLw.s (gLw.n (gLw.n (gLw.n (gLw.n (gLw.n gLw.z))))))))))
                  · refine gy_ifF rfl (by decide) (by decide) (by omega) hc41 ?_
                    refine gy_s 4 (pc' := 338) (L' := [some (.ref m), some (.int (zi b)), some (.int (zi p)), some (.int (zi k)), some (.int (zi ii)), none, none, none, none, none]) (S' := [.int ((zi p) + (zi ii)), .ref m]) (L2 := [some (.ref m), some (.int (zi b)), some (.int (zi p)), some (.int (zi k)), some (.int (zi ii)), none, none, none, none, none]) (S2 := [.int (zi (p + ii)), .ref m]) rfl (by simp only [zi_add, zi_sub, zi_mul, zi_neg, zi_and1, zi_and7, zi_and15, zi_and31, zi_and255]) (by simp only [zi_add, zi_sub, zi_mul, zi_neg, zi_and1, zi_and7, zi_and15, zi_and31, zi_and255]) ?_
                    refine gz_call rfl (by decide) rfl (by decide) (by decide) (gcal_of rfl rfl rfl (Nat.le_of_ble_eq_true rfl) (gJ.recv (G := gGG) sh7.1 tm rfl rfl)) (mm_grow _ sh7.1 m tm (p + ii) (by omega) av lp6k5 (by omega) kv lp6k6 (by omega) sz lp6k0 (by omega) uv lp6k7 (by omega) lw lp6k1 (by omega) (by omega)) (fun q42 _ wq42 => ?_)
                    obtain ⟨pq42, oq42, hq42⟩ := q42
                    obtain ⟨xq42, fq42_0, fq42_1, fq42_2, gq42, efq42_0, afq42_0, bfq42_0, efq42_1, afq42_1, bfq42_1, efq42_2, afq42_2, bfq42_2, uq42_0, uq42_1, uq42_2⟩ := wq42
                    refine ⟨_, gq42, ?_⟩
                    show gz gPP gGG gcn _ _ 341 [some (.ref m), some (.int (zi b)), some (.int (zi p)), some (.int (zi k)), some (.int (zi ii)), none, none, none, none, none] [] hq42 _
                    have sq42 := gSs.tr sh7 xq42 (by decide)
                    have s43 := (xq42.2.2.2.2.2 m 3 (by rw [tm]; decide)).trans lp6k0
                    have s44 := (xq42.2.2.2.2.2 m 44 (by rw [tm]; decide)).trans lp6k1
                    have s45 := (xq42.2.2.2.2.2 m 41 (by rw [tm]; decide)).trans lp6k2
                    have s46 := (xq42.2.2.2.2.2 m 42 (by rw [tm]; decide)).trans lp6k3
                    have s47 := (xq42.2.2.2.2.2 m 45 (by rw [tm]; decide)).trans lp6k4
                    have s48 := (xq42.2.2.2.2.2 m 37 (by rw [tm]; decide)).trans ec38
                    have pr49 := gEl.fr xq42.2 (by decide) (fun _ => rfl) lp6k8
                    refine gy_s 2 (pc' := 305) (L' := [some (.ref m), some (.int (zi b)), some (.int (zi p)), some (.int (zi k)), some (.int ((zi ii) + zi 1)), none, none, none, none, none]) (S' := []) (L2 := [some (.ref m), some (.int (zi b)), some (.int (zi p)), some (.int (zi k)), some (.int (zi (ii + 1))), none, none, none, none, none]) (S2 := []) rfl (by simp only [zi_add, zi_sub, zi_mul, zi_neg, zi_and1, zi_and7, zi_and15, zi_and31, zi_and255]) (by simp only [zi_add, zi_sub, zi_mul, zi_neg, zi_and1, zi_and7, zi_and15, zi_and31, zi_and255]) ?_
                    exact gz_wk (ihlp6 hq42 (ii + 1) fq42_0 fq42_1 fq42_2 (by omega) sq42 (by omega) (by omega) (by omega) (by omega) (by omega) (by omega) (by omega) s43 s44 s45 s46 s47 efq42_0 efq42_1 efq42_2 pr49) (gLw.s (gLw.s (gLw.s (gLw.s (gLw.s (gLw.n (gLw.n (gLw.n (gLw.n (gLw.n gLw.z))))))))))
          exact gz_wk (lp6 _ h3 k av kv uv (Nat.lt_succ_self _) sh3 (by omega) (by omega) (by omega) (by omega) (by omega) (by omega) (by omega) lp2k0 lp2k1 lp2k2 lp2k3 lp2k7 lp2k4 lp2k5 lp2k6 lp2k8) (gLw.s (gLw.s (gLw.s (gLw.s (gLw.s (gLw.n (gLw.n (gLw.n (gLw.n (gLw.n gLw.z))))))))))
      · refine gy_ifF rfl (by decide) (by decide) (by omega) hc4 ?_
        refine gz_s 2 (pc' := 14) (L' := [some (.ref m), some (.int (zi b)), some (.int (zi p)), some (.int (zi k)), none, none, none, none, none, none]) (S' := [.ref m, .int (zi k)]) rfl ?_
        refine gs_gtk rfl (by decide) rfl sh3.1 tm rfl rfl lp2k3 ?_
        by_cases hc50 : (tt : Int) < k
        · refine gy_icT (pc' := 295) rfl (by decide) (by decide) (by omega) (by omega) hc50 ?_
          refine gz_s 1 (pc' := 296) (L' := [some (.ref m), some (.int (zi b)), some (.int (zi p)), some (.int (zi k)), none, none, none, none, none, none]) (S' := [.ref m]) rfl ?_
          refine gs_gtk rfl (by decide) rfl sh3.1 tm rfl rfl lp2k7 ?_
          refine gy_ifT (pc' := 371) rfl (by decide) (by decide) (by omega) (by first | (simp [zc]; done) | (simp only [zc]; omega)) ?_
          exact gz_end (I := .return_) (len := 1) rfl (Or.inl rfl) ⟨sh3, av, kv, uv, rfl, lp2k4, (by omega), (by omega), lp2k5, (by omega), (by omega), lp2k6, (by omega), (by omega), (by omega), (by omega), (by omega)⟩
        · refine gy_icF rfl (by decide) (by decide) (by omega) (by omega) hc50 ?_
          refine gz_s 2 (pc' := 22) (L' := [some (.ref m), some (.int (zi b)), some (.int (zi p)), some (.int (zi k)), none, none, none, none, none, none]) (S' := [.ref m, .ref m]) rfl ?_
          refine gs_gtr rfl (by decide) rfl sh3.1 tm rfl rfl rfl (fun c51 ec51 tc51 => ?_)
          refine gz_s 1 (pc' := 26) (L' := [some (.ref m), some (.int (zi b)), some (.int (zi p)), some (.int (zi k)), none, none, none, none, none, none]) (S' := [.int (zi b), .ref c51, .ref m]) rfl ?_
          have hl52 : 3 ≤ h3.2.2.2.1 c51 ∧ h3.2.2.2.1 c51 ≤ 3 := gJ.rowl (G := gGG) sh3.1 tc51 rfl
          refine gs_ald rfl (by decide) sh3.1 tc51 rfl rfl rfl (by decide) (fun _ => rfl) (by omega) (by omega) (fun z53 ez53 az53 bz53 => ?_)
          have he54 := lp2k8 c51 z53 tc51 ez53 (by omega) (by omega)
          refine gz_call rfl (by decide) rfl (by decide) (by decide) (gcal_of rfl rfl rfl (Nat.le_of_ble_eq_true rfl) (gJ.recv (G := gGG) sh3.1 tm rfl rfl)) (mm_symbol _ sh3.1 m tm z53 (by omega) av lp2k4 (by omega) kv lp2k5 (by omega) sz lp2k0 (by omega) uv lp2k6 (by omega) (by omega)) (fun q55 _ wq55 => ?_)
          obtain ⟨pq55, oq55, hq55⟩ := q55
          obtain ⟨xq55, zq55, fq55_0, fq55_1, fq55_2, gq55, aq55, bq55, efq55_0, afq55_0, bfq55_0, efq55_1, afq55_1, bfq55_1, efq55_2, afq55_2, bfq55_2, uq55_0, uq55_1, uq55_2⟩ := wq55
          refine ⟨_, gq55, ?_⟩
          show gz gPP gGG gcn _ _ 30 [some (.ref m), some (.int (zi b)), some (.int (zi p)), some (.int (zi k)), none, none, none, none, none, none] [.int (zi zq55)] hq55 _
          have sq55 := gSs.tr sh3 xq55 (by decide)
          have s56 := (xq55.2.2.2.2.2 m 3 (by rw [tm]; decide)).trans lp2k0
          have s57 := (xq55.2.2.2.2.2 m 44 (by rw [tm]; decide)).trans lp2k1
          have s58 := (xq55.2.2.2.2.2 m 41 (by rw [tm]; decide)).trans lp2k2
          have s59 := (xq55.2.2.2.2.2 m 42 (by rw [tm]; decide)).trans lp2k3
          have s60 := (xq55.2.2.2.2.2 m 45 (by rw [tm]; decide)).trans lp2k7
          have s61 := (xq55.2.2.2.2.2 m 36 (by rw [tm]; decide)).trans ec51
          have pr62 := gEl.fr xq55.2 (by decide) (fun _ => rfl) lp2k8
          refine gz_s 3 (pc' := 36) (L' := [some (.ref m), some (.int (zi b)), some (.int (zi p)), some (.int (zi k)), some (.int (zi zq55)), none, none, none, none, none]) (S' := [.int (zi 16), .int (zi zq55)]) rfl ?_
          refine gy_div rfl (by decide) (by omega) (by omega) ?_
          refine gz_s 3 (pc' := 43) (L' := [some (.ref m), some (.int (zi b)), some (.int (zi p)), some (.int (zi k)), some (.int (zi zq55)), some (.int (zi (zq55 / 16))), none, none, none, none]) (S' := [.int (zi 16), .int (zi zq55)]) rfl ?_
          refine gy_rem rfl (by decide) (by omega) (by omega) ?_
          refine gz_s 4 (pc' := 50) (L' := [some (.ref m), some (.int (zi b)), some (.int (zi p)), some (.int (zi k)), some (.int (zi zq55)), some (.int (zi (zq55 / 16))), some (.int (zi (zq55 % 16))), none, none, none]) (S' := [.int (zi 1), .int (zi (zq55 % 16)), .ref m]) rfl ?_
          by_cases hc63 : (1 : Int) < zq55 % 16
          · refine gy_icT (pc' := 57) rfl (by decide) (by decide) (by omega) (by omega) hc63 ?_
            refine gz_s 1 (pc' := 58) (L' := [some (.ref m), some (.int (zi b)), some (.int (zi p)), some (.int (zi k)), some (.int (zi zq55)), some (.int (zi (zq55 / 16))), some (.int (zi (zq55 % 16))), none, none, none]) (S' := [.int (zi 0), .ref m]) rfl ?_
            refine gz_call rfl (by decide) rfl (by decide) (by decide) (gcal_of rfl rfl rfl (Nat.le_of_ble_eq_true rfl) (gJ.recv (G := gGG) sq55.1 tm rfl rfl)) (mm_keep _ sq55.1 m tm 0 (by omega) fq55_2 efq55_2 (by omega)) (fun q64 _ wq64 => ?_)
            obtain ⟨pq64, oq64, hq64⟩ := q64
            obtain ⟨xq64, fq64_0, gq64, efq64_0, afq64_0, bfq64_0, uq64_0⟩ := wq64
            refine ⟨_, gq64, ?_⟩
            show gz gPP gGG gcn _ _ 61 [some (.ref m), some (.int (zi b)), some (.int (zi p)), some (.int (zi k)), some (.int (zi zq55)), some (.int (zi (zq55 / 16))), some (.int (zi (zq55 % 16))), none, none, none] [] hq64 _
            have sq64 := gSs.tr sq55 xq64 (by decide)
            have s65 := (xq64.2.2.2.2.2 m 3 (by rw [tm]; decide)).trans s56
            have s66 := (xq64.2.2.2.2.2 m 44 (by rw [tm]; decide)).trans s57
            have s67 := (xq64.2.2.2.2.2 m 41 (by rw [tm]; decide)).trans s58
            have s68 := (xq64.2.2.2.2.2 m 42 (by rw [tm]; decide)).trans s59
            have s69 := (xq64.2.2.2.2.2 m 45 (by rw [tm]; decide)).trans s60
            have s70 := (xq64.2.2.2.2.2 m 36 (by rw [tm]; decide)).trans s61
            have s71 := (xq64.2.2.2.2.2 m 47 (by rw [tm]; decide)).trans efq55_0
            have s72 := (xq64.2.2.2.2.2 m 48 (by rw [tm]; decide)).trans efq55_1
            have pr73 := gEl.fr xq64.2 (by decide) (fun _ => rfl) pr62
            refine gz_s 1 (pc' := 62) (L' := [some (.ref m), some (.int (zi b)), some (.int (zi p)), some (.int (zi k)), some (.int (zi zq55)), some (.int (zi (zq55 / 16))), some (.int (zi (zq55 % 16))), none, none, none]) (S' := [.ref m]) rfl ?_
            refine gs_gtk rfl (by decide) rfl sq64.1 tm rfl rfl efq64_0 ?_
            by_cases hc74 : (fq64_0 : Int) = 0
            · refine gy_ifT (pc' := 69) rfl (by decide) (by decide) (by omega) hc74 ?_
              refine gz_s 1 (pc' := 71) (L' := [some (.ref m), some (.int (zi b)), some (.int (zi p)), some (.int (zi k)), some (.int (zi zq55)), some (.int (zi (zq55 / 16))), some (.int (zi (zq55 % 16))), none, none, none]) (S' := [.int (zi (zq55 % 16))]) rfl ?_
              refine gy_ifT (pc' := 111) rfl (by decide) (by decide) (by omega) (by first | (simp [zc]; done) | (simp only [zc]; omega)) ?_
              refine gz_s 1 (pc' := 113) (L' := [some (.ref m), some (.int (zi b)), some (.int (zi p)), some (.int (zi k)), some (.int (zi zq55)), some (.int (zi (zq55 / 16))), some (.int (zi (zq55 % 16))), none, none, none]) (S' := [.int (zi (zq55 % 16))]) rfl ?_
              refine gy_ifT (pc' := 120) rfl (by decide) (by decide) (by omega) (by first | (simp [zc]; done) | (simp only [zc]; omega)) ?_
              refine gz_s 1 (pc' := 121) (L' := [some (.ref m), some (.int (zi b)), some (.int (zi p)), some (.int (zi k)), some (.int (zi zq55)), some (.int (zi (zq55 / 16))), some (.int (zi (zq55 % 16))), none, none, none]) (S' := [.ref m]) rfl ?_
              refine gz_call rfl (by decide) rfl (by decide) (by decide) (gcal_of rfl rfl rfl (Nat.le_of_ble_eq_true rfl) (gJ.recv (G := gGG) sq64.1 tm rfl rfl)) (mm_bit _ sq64.1 m tm fq55_0 s71 (by omega) fq55_1 s72 (by omega) sz s65 (by omega) fq64_0 efq64_0 (by omega) (by omega)) (fun q75 _ wq75 => ?_)
              obtain ⟨pq75, oq75, hq75⟩ := q75
              obtain ⟨xq75, zq75, fq75_0, fq75_1, fq75_2, gq75, aq75, bq75, efq75_0, afq75_0, bfq75_0, efq75_1, afq75_1, bfq75_1, efq75_2, afq75_2, bfq75_2, uq75_0, uq75_1, uq75_2⟩ := wq75
              refine ⟨_, gq75, ?_⟩
              show gz gPP gGG gcn _ _ 124 [some (.ref m), some (.int (zi b)), some (.int (zi p)), some (.int (zi k)), some (.int (zi zq55)), some (.int (zi (zq55 / 16))), some (.int (zi (zq55 % 16))), none, none, none] [.int (zi zq75)] hq75 _
              have sq75 := gSs.tr sq64 xq75 (by decide)
              have s76 := (xq75.2.2.2.2.2 m 3 (by rw [tm]; decide)).trans s65
              have s77 := (xq75.2.2.2.2.2 m 44 (by rw [tm]; decide)).trans s66
              have s78 := (xq75.2.2.2.2.2 m 41 (by rw [tm]; decide)).trans s67
              have s79 := (xq75.2.2.2.2.2 m 42 (by rw [tm]; decide)).trans s68
              have s80 := (xq75.2.2.2.2.2 m 45 (by rw [tm]; decide)).trans s69
              have s81 := (xq75.2.2.2.2.2 m 36 (by rw [tm]; decide)).trans s70
              have pr82 := gEl.fr xq75.2 (by decide) (fun _ => rfl) pr73
              refine gz_s 1 (pc' := 125) (L' := [some (.ref m), some (.int (zi b)), some (.int (zi p)), some (.int (zi k)), some (.int (zi zq55)), some (.int (zi (zq55 / 16))), some (.int (zi (zq55 % 16))), none, none, none]) (S' := [.int (zi 1), .int (zi zq75)]) rfl ?_
              by_cases hc83 : ¬ (zq75 : Int) = 1
              · refine gy_icT (pc' := 137) rfl (by decide) (by decide) (by omega) (by omega) hc83 ?_
                refine gz_s 2 (pc' := 139) (L' := [some (.ref m), some (.int (zi b)), some (.int (zi p)), some (.int (zi k)), some (.int (zi zq55)), some (.int (zi (zq55 / 16))), some (.int (zi (zq55 % 16))), none, none, none]) (S' := [.ref m, .int (zi 1)]) rfl ?_
                refine gs_gtk rfl (by decide) rfl sq75.1 tm rfl rfl s77 ?_
                refine gy_sh1 rfl (by decide) (by omega) (fun z84 az84 bz84 cz84 => ?_)
                refine gy_s 5 (pc' := 151) (L' := [some (.ref m), some (.int (zi b)), some (.int (zi p)), some (.int (zi k)), some (.int (zi zq55)), some (.int (zi (zq55 / 16))), some (.int (zi (zq55 % 16))), some (.int (-(zi z84))), some (.int (zi (zq55 / 16))), none]) (S' := [.ref m]) (L2 := [some (.ref m), some (.int (zi b)), some (.int (zi p)), some (.int (zi k)), some (.int (zi zq55)), some (.int (zi (zq55 / 16))), some (.int (zi (zq55 % 16))), some (.int (zi (-z84))), some (.int (zi (zq55 / 16))), none]) (S2 := [.ref m]) rfl (by simp only [zi_add, zi_sub, zi_mul, zi_neg, zi_and1, zi_and7, zi_and15, zi_and31, zi_and255]) (by simp only [zi_add, zi_sub, zi_mul, zi_neg, zi_and1, zi_and7, zi_and15, zi_and31, zi_and255]) ?_
                refine gs_gtk rfl (by decide) rfl sq75.1 tm rfl rfl efq75_2 ?_
                by_cases hc85 : ¬ (fq75_2 : Int) = 0
                · refine gy_ifT (pc' := 161) rfl (by decide) (by decide) (by omega) hc85 ?_
                  refine gz_s 2 (pc' := 164) (L' := [some (.ref m), some (.int (zi b)), some (.int (zi p)), some (.int (zi k)), some (.int (zi zq55)), some (.int (zi (zq55 / 16))), some (.int (zi (zq55 % 16))), some (.int (zi (-z84))), some (.int (zi (zq55 / 16))), some (.int (zi 0))]) (S' := []) rfl ?_
                  have lp86 : ∀ (fu : Nat) (h87 : gH) (kk : Int) (lf : Int) (go : Int) (av : Int) (kv : Int) (uv : Int), (2 * (200 - kk) + go).toNat < fu → gSs rT 1027 ty [1045, 1046, 1047, 1048, 20999, 23999] h h87 → (1 ≤ kk ∧ kk ≤ 64) → ((-1) ≤ lf ∧ lf ≤ 15) → (0 ≤ go ∧ go ≤ 1) → (0 ≤ av ∧ av ≤ 2001) → (0 ≤ kv ∧ kv ≤ 7) → (0 ≤ uv ∧ uv ≤ 1) → (kv = 0 ∨ av < sz) → (a0 ≤ av) → (uv = 0 → u0 = 0) → (k ≤ kk) → (go = 1 → 0 ≤ lf) → h87.2.2.2.2 m 3 = .int (zi sz) → h87.2.2.2.2 m 44 = .int (zi lw) → h87.2.2.2.2 m 41 = .int (zi fr) → h87.2.2.2.2 m 42 = .int (zi tt) → h87.2.2.2.2 m 45 = .int (zi rv) → h87.2.2.2.2 m 36 = .ref c51 → h87.2.2.2.2 m 47 = .int (zi av) → h87.2.2.2.2 m 48 = .int (zi kv) → h87.2.2.2.2 m 46 = .int (zi uv) → gEl ty 22 b 4 7 h87 → gz gPP gGG gcn (d + 5) gt161 164 [some (.ref m), some (.int (zi b)), some (.int (zi p)), some (.int (zi kk)), some (.int (zi zq55)), some (.int (zi (zq55 / 16))), some (.int (zi (zq55 % 16))), some (.int (zi (-z84))), some (.int (zi lf)), some (.int (zi go))] [] h87 (fun q _ => gSs rT 1027 ty [1045, 1046, 1047, 1048, 20999, 23999] h q.2.2 ∧ ∃ a1 k1 u1 : Int, gfin gt161 q.1 q.2.1 = some none ∧ q.2.2.2.2.2.2 m 47 = .int (zi a1) ∧ 0 ≤ a1 ∧ a1 ≤ 2001 ∧ q.2.2.2.2.2.2 m 48 = .int (zi k1) ∧ 0 ≤ k1 ∧ k1 ≤ 7 ∧ q.2.2.2.2.2.2 m 46 = .int (zi u1) ∧ 0 ≤ u1 ∧ u1 ≤ 1 ∧ (k1 = 0 ∨ a1 < sz) ∧ (a0 ≤ a1) ∧ (u1 = 0 → u0 = 0)) := by
                    intro fu
                    induction fu with
                    | zero => intro h87 kk lf go av kv uv hm; exact absurd hm (Nat.not_lt_zero _)
                    | succ fu ihlp86 =>
                      intro h87 kk lf go av kv uv lp86m sh87 lp86f0 lp86f1 lp86f2 lp86f3 lp86f4 lp86f5 lp86f6 lp86f7 lp86f8 lp86f9 lp86f10 lp86k0 lp86k1 lp86k2 lp86k3 lp86k4 lp86k5 lp86k6 lp86k7 lp86k8 lp86k9
                      refine gz_s 1 (pc' := 166) (L' := [some (.ref m), some (.int (zi b)), some (.int (zi p)), some (.int (zi kk)), some (.int (zi zq55)), some (.int (zi (zq55 / 16))), some (.int (zi (zq55 % 16))), some (.int (zi (-z84))), some (.int (zi lf)), some (.int (zi go))]) (S' := [.int (zi go)]) rfl ?_
                      by_cases hc88 : (go : Int) = 0
                      · refine gy_ifT (pc' := 243) rfl (by decide) (by decide) (by omega) hc88 ?_
                        refine gz_s 3 (pc' := 246) (L' := [some (.ref m), some (.int (zi b)), some (.int (zi p)), some (.int (zi kk)), some (.int (zi zq55)), some (.int (zi (zq55 / 16))), some (.int (zi (zq55 % 16))), some (.int (zi (-z84))), some (.int (zi lf)), some (.int (zi go))]) (S' := [.ref m, .int (zi kk), .ref m]) rfl ?_
                        refine gs_gtk rfl (by decide) rfl sh87.1 tm rfl rfl lp86k3 ?_
                        by_cases hc89 : (kk : Int) ≤ tt
                        · refine gy_icT (pc' := 257) rfl (by decide) (by decide) (by omega) (by omega) hc89 ?_
                          refine gz_s 2 (pc' := 262) (L' := [some (.ref m), some (.int (zi b)), some (.int (zi p)), some (.int (zi kk)), some (.int (zi zq55)), some (.int (zi (zq55 / 16))), some (.int (zi (zq55 % 16))), some (.int (zi (-z84))), some (.int (zi lf)), some (.int (zi go))]) (S' := [.int (zi 1), .ref m]) rfl ?_
                          refine gz_call rfl (by decide) rfl (by decide) (by decide) (gcal_of rfl rfl rfl (Nat.le_of_ble_eq_true rfl) (gJ.recv (G := gGG) sh87.1 tm rfl rfl)) (mm_keep _ sh87.1 m tm 1 (by omega) uv lp86k8 (by omega)) (fun q90 _ wq90 => ?_)
                          obtain ⟨pq90, oq90, hq90⟩ := q90
                          obtain ⟨xq90, fq90_0, gq90, efq90_0, afq90_0, bfq90_0, uq90_0⟩ := wq90
                          refine ⟨_, gq90, ?_⟩
                          show gz gPP gGG gcn _ _ 265 [some (.ref m), some (.int (zi b)), some (.int (zi p)), some (.int (zi kk)), some (.int (zi zq55)), some (.int (zi (zq55 / 16))), some (.int (zi (zq55 % 16))), some (.int (zi (-z84))), some (.int (zi lf)), some (.int (zi go))] [] hq90 _
                          have sq90 := gSs.tr sh87 xq90 (by decide)
                          have s91 := (xq90.2.2.2.2.2 m 3 (by rw [tm]; decide)).trans lp86k0
                          have s92 := (xq90.2.2.2.2.2 m 44 (by rw [tm]; decide)).trans lp86k1
                          have s93 := (xq90.2.2.2.2.2 m 41 (by rw [tm]; decide)).trans lp86k2
                          have s94 := (xq90.2.2.2.2.2 m 42 (by rw [tm]; decide)).trans lp86k3
                          have s95 := (xq90.2.2.2.2.2 m 45 (by rw [tm]; decide)).trans lp86k4
                          have s96 := (xq90.2.2.2.2.2 m 36 (by rw [tm]; decide)).trans lp86k5
                          have s97 := (xq90.2.2.2.2.2 m 47 (by rw [tm]; decide)).trans lp86k6
                          have s98 := (xq90.2.2.2.2.2 m 48 (by rw [tm]; decide)).trans lp86k7
                          have pr99 := gEl.fr xq90.2 (by decide) (fun _ => rfl) lp86k9
                          refine gz_s 1 (pc' := 266) (L' := [some (.ref m), some (.int (zi b)), some (.int (zi p)), some (.int (zi kk)), some (.int (zi zq55)), some (.int (zi (zq55 / 16))), some (.int (zi (zq55 % 16))), some (.int (zi (-z84))), some (.int (zi lf)), some (.int (zi go))]) (S' := [.ref m]) rfl ?_
                          refine gs_gtk rfl (by decide) rfl sq90.1 tm rfl rfl efq90_0 ?_
                          by_cases hc100 : (fq90_0 : Int) = 0
                          · refine gy_ifT (pc' := 273) rfl (by decide) (by decide) (by omega) hc100 ?_
                            refine gz_s 2 (pc' := 276) (L' := [some (.ref m), some (.int (zi b)), some (.int (zi p)), some (.int (zi kk)), some (.int (zi zq55)), some (.int (zi (zq55 / 16))), some (.int (zi (zq55 % 16))), some (.int (zi (-z84))), some (.int (zi lf)), some (.int (zi go))]) (S' := [.int (zi 1), .int (zi (zq55 % 16))]) rfl ?_
                            refine gy_icT (pc' := 289) rfl (by decide) (by decide) (by omega) (by omega) (by first | (simp [zc]; done) | (simp only [zc]; omega)) ?_
                            refine gy_s 2 (pc' := 5) (L' := [some (.ref m), some (.int (zi b)), some (.int (zi p)), some (.int ((zi kk) + zi 1)), some (.int (zi zq55)), some (.int (zi (zq55 / 16))), some (.int (zi (zq55 % 16))), some (.int (zi (-z84))), some (.int (zi lf)), some (.int (zi go))]) (S' := []) (L2 := [some (.ref m), some (.int (zi b)), some (.int (zi p)), some (.int (zi (kk + 1))), some (.int (zi zq55)), some (.int (zi (zq55 / 16))), some (.int (zi (zq55 % 16))), some (.int (zi (-z84))), some (.int (zi lf)), some (.int (zi go))]) (S2 := []) rfl (by simp only [zi_add, zi_sub, zi_mul, zi_neg, zi_and1, zi_and7, zi_and15, zi_and31, zi_and255]) (by simp only [zi_add, zi_sub, zi_mul, zi_neg, zi_and1, zi_and7, zi_and15, zi_and31, zi_and255]) ?_
                            exact gz_wk (ihlp2 hq90 (kk + 1) av kv fq90_0 rv (by omega) sq90 (by omega) (by omega) (by omega) (by omega) (by omega) (by omega) (by omega) (by omega) s91 s92 s93 s94 s97 s98 efq90_0 s95 pr99) (gLw.s (gLw.s (gLw.s (gLw.s (gLw.n (gLw.n (gLw.n (gLw.n (gLw.n (gLw.n gLw.z))))))))))
                          · refine gy_ifF rfl (by decide) (by decide) (by omega) hc100 ?_
                            exact gz_end (I := .return_) (len := 1) rfl (Or.inl rfl) ⟨sq90, av, kv, fq90_0, rfl, s97, (by omega), (by omega), s98, (by omega), (by omega), efq90_0, (by omega), (by omega), (by omega), (by omega), (by omega)⟩
                        · refine gy_icF rfl (by decide) (by decide) (by omega) (by omega) hc89 ?_
                          refine gz_s 1 (pc' := 254) (L' := [some (.ref m), some (.int (zi b)), some (.int (zi p)), some (.int (zi kk)), some (.int (zi zq55)), some (.int (zi (zq55 / 16))), some (.int (zi (zq55 % 16))), some (.int (zi (-z84))), some (.int (zi lf)), some (.int (zi go))]) (S' := [.int (zi (zq55 % 16)), .ref m]) rfl ?_
                          refine gy_ifT (pc' := 261) rfl (by decide) (by decide) (by omega) (by first | (simp [zc]; done) | (simp only [zc]; omega)) ?_
                          refine gz_s 1 (pc' := 262) (L' := [some (.ref m), some (.int (zi b)), some (.int (zi p)), some (.int (zi kk)), some (.int (zi zq55)), some (.int (zi (zq55 / 16))), some (.int (zi (zq55 % 16))), some (.int (zi (-z84))), some (.int (zi lf)), some (.int (zi go))]) (S' := [.int (zi 0), .ref m]) rfl ?_
                          refine gz_call rfl (by decide) rfl (by decide) (by decide) (gcal_of rfl rfl rfl (Nat.le_of_ble_eq_true rfl) (gJ.recv (G := gGG) sh87.1 tm rfl rfl)) (mm_keep _ sh87.1 m tm 0 (by omega) uv lp86k8 (by omega)) (fun q101 _ wq101 => ?_)
                          obtain ⟨pq101, oq101, hq101⟩ := q101
                          obtain ⟨xq101, fq101_0, gq101, efq101_0, afq101_0, bfq101_0, uq101_0⟩ := wq101
                          refine ⟨_, gq101, ?_⟩
                          show gz gPP gGG gcn _ _ 265 [some (.ref m), some (.int (zi b)), some (.int (zi p)), some (.int (zi kk)), some (.int (zi zq55)), some (.int (zi (zq55 / 16))), some (.int (zi (zq55 % 16))), some (.int (zi (-z84))), some (.int (zi lf)), some (.int (zi go))] [] hq101 _
                          have sq101 := gSs.tr sh87 xq101 (by decide)
                          have s102 := (xq101.2.2.2.2.2 m 3 (by rw [tm]; decide)).trans lp86k0
                          have s103 := (xq101.2.2.2.2.2 m 44 (by rw [tm]; decide)).trans lp86k1
                          have s104 := (xq101.2.2.2.2.2 m 41 (by rw [tm]; decide)).trans lp86k2
                          have s105 := (xq101.2.2.2.2.2 m 42 (by rw [tm]; decide)).trans lp86k3
                          have s106 := (xq101.2.2.2.2.2 m 45 (by rw [tm]; decide)).trans lp86k4
                          have s107 := (xq101.2.2.2.2.2 m 36 (by rw [tm]; decide)).trans lp86k5
                          have s108 := (xq101.2.2.2.2.2 m 47 (by rw [tm]; decide)).trans lp86k6
                          have s109 := (xq101.2.2.2.2.2 m 48 (by rw [tm]; decide)).trans lp86k7
                          have pr110 := gEl.fr xq101.2 (by decide) (fun _ => rfl) lp86k9
                          refine gz_s 1 (pc' := 266) (L' := [some (.ref m), some (.int (zi b)), some (.int (zi p)), some (.int (zi kk)), some (.int (zi zq55)), some (.int (zi (zq55 / 16))), some (.int (zi (zq55 % 16))), some (.int (zi (-z84))), some (.int (zi lf)), some (.int (zi go))]) (S' := [.ref m]) rfl ?_
                          refine gs_gtk rfl (by decide) rfl sq101.1 tm rfl rfl efq101_0 ?_
                          by_cases hc111 : (fq101_0 : Int) = 0
                          · refine gy_ifT (pc' := 273) rfl (by decide) (by decide) (by omega) hc111 ?_
                            refine gz_s 2 (pc' := 276) (L' := [some (.ref m), some (.int (zi b)), some (.int (zi p)), some (.int (zi kk)), some (.int (zi zq55)), some (.int (zi (zq55 / 16))), some (.int (zi (zq55 % 16))), some (.int (zi (-z84))), some (.int (zi lf)), some (.int (zi go))]) (S' := [.int (zi 1), .int (zi (zq55 % 16))]) rfl ?_
                            refine gy_icT (pc' := 289) rfl (by decide) (by decide) (by omega) (by omega) (by first | (simp [zc]; done) | (simp only [zc]; omega)) ?_
                            refine gy_s 2 (pc' := 5) (L' := [some (.ref m), some (.int (zi b)), some (.int (zi p)), some (.int ((zi kk) + zi 1)), some (.int (zi zq55)), some (.int (zi (zq55 / 16))), some (.int (zi (zq55 % 16))), some (.int (zi (-z84))), some (.int (zi lf)), some (.int (zi go))]) (S' := []) (L2 := [some (.ref m), some (.int (zi b)), some (.int (zi p)), some (.int (zi (kk + 1))), some (.int (zi zq55)), some (.int (zi (zq55 / 16))), some (.int (zi (zq55 % 16))), some (.int (zi (-z84))), some (.int (zi lf)), some (.int (zi go))]) (S2 := []) rfl (by simp only [zi_add, zi_sub, zi_mul, zi_neg, zi_and1, zi_and7, zi_and15, zi_and31, zi_and255]) (by simp only [zi_add, zi_sub, zi_mul, zi_neg, zi_and1, zi_and7, zi_and15, zi_and31, zi_and255]) ?_
                            exact gz_wk (ihlp2 hq101 (kk + 1) av kv fq101_0 rv (by omega) sq101 (by omega) (by omega) (by omega) (by omega) (by omega) (by omega) (by omega) (by omega) s102 s103 s104 s105 s108 s109 efq101_0 s106 pr110) (gLw.s (gLw.s (gLw.s (gLw.s (gLw.n (gLw.n (gLw.n (gLw.n (gLw.n (gLw.n gLw.z))))))))))
                          · refine gy_ifF rfl (by decide) (by decide) (by omega) hc111 ?_
                            exact gz_end (I := .return_) (len := 1) rfl (Or.inl rfl) ⟨sq101, av, kv, fq101_0, rfl, s108, (by omega), (by omega), s109, (by omega), (by omega), efq101_0, (by omega), (by omega), (by omega), (by omega), (by omega)⟩
                      · refine gy_ifF rfl (by decide) (by decide) (by omega) hc88 ?_
                        refine gz_s 2 (pc' := 171) (L' := [some (.ref m), some (.int (zi b)), some (.int (zi p)), some (.int (zi kk)), some (.int (zi zq55)), some (.int (zi (zq55 / 16))), some (.int (zi (zq55 % 16))), some (.int (zi (-z84))), some (.int (zi lf)), some (.int (zi go))]) (S' := [.ref m, .int (zi kk)]) rfl ?_
                        refine gs_gtk rfl (by decide) rfl sh87.1 tm rfl rfl lp86k3 ?_
                        by_cases hc112 : (tt : Int) < kk
                        · refine gy_icT (pc' := 243) rfl (by decide) (by decide) (by omega) (by omega) hc112 ?_
                          refine gz_s 3 (pc' := 246) (L' := [some (.ref m), some (.int (zi b)), some (.int (zi p)), some (.int (zi kk)), some (.int (zi zq55)), some (.int (zi (zq55 / 16))), some (.int (zi (zq55 % 16))), some (.int (zi (-z84))), some (.int (zi lf)), some (.int (zi go))]) (S' := [.ref m, .int (zi kk), .ref m]) rfl ?_
                          refine gs_gtk rfl (by decide) rfl sh87.1 tm rfl rfl lp86k3 ?_
                          refine gy_icF rfl (by decide) (by decide) (by omega) (by omega) (by first | (simp [zc]; done) | (simp only [zc]; omega)) ?_
                          refine gz_s 1 (pc' := 254) (L' := [some (.ref m), some (.int (zi b)), some (.int (zi p)), some (.int (zi kk)), some (.int (zi zq55)), some (.int (zi (zq55 / 16))), some (.int (zi (zq55 % 16))), some (.int (zi (-z84))), some (.int (zi lf)), some (.int (zi go))]) (S' := [.int (zi (zq55 % 16)), .ref m]) rfl ?_
                          refine gy_ifT (pc' := 261) rfl (by decide) (by decide) (by omega) (by first | (simp [zc]; done) | (simp only [zc]; omega)) ?_
                          refine gz_s 1 (pc' := 262) (L' := [some (.ref m), some (.int (zi b)), some (.int (zi p)), some (.int (zi kk)), some (.int (zi zq55)), some (.int (zi (zq55 / 16))), some (.int (zi (zq55 % 16))), some (.int (zi (-z84))), some (.int (zi lf)), some (.int (zi go))]) (S' := [.int (zi 0), .ref m]) rfl ?_
                          refine gz_call rfl (by decide) rfl (by decide) (by decide) (gcal_of rfl rfl rfl (Nat.le_of_ble_eq_true rfl) (gJ.recv (G := gGG) sh87.1 tm rfl rfl)) (mm_keep _ sh87.1 m tm 0 (by omega) uv lp86k8 (by omega)) (fun q113 _ wq113 => ?_)
                          obtain ⟨pq113, oq113, hq113⟩ := q113
                          obtain ⟨xq113, fq113_0, gq113, efq113_0, afq113_0, bfq113_0, uq113_0⟩ := wq113
                          refine ⟨_, gq113, ?_⟩
                          show gz gPP gGG gcn _ _ 265 [some (.ref m), some (.int (zi b)), some (.int (zi p)), some (.int (zi kk)), some (.int (zi zq55)), some (.int (zi (zq55 / 16))), some (.int (zi (zq55 % 16))), some (.int (zi (-z84))), some (.int (zi lf)), some (.int (zi go))] [] hq113 _
                          have sq113 := gSs.tr sh87 xq113 (by decide)
                          have s114 := (xq113.2.2.2.2.2 m 3 (by rw [tm]; decide)).trans lp86k0
                          have s115 := (xq113.2.2.2.2.2 m 44 (by rw [tm]; decide)).trans lp86k1
                          have s116 := (xq113.2.2.2.2.2 m 41 (by rw [tm]; decide)).trans lp86k2
                          have s117 := (xq113.2.2.2.2.2 m 42 (by rw [tm]; decide)).trans lp86k3
                          have s118 := (xq113.2.2.2.2.2 m 45 (by rw [tm]; decide)).trans lp86k4
                          have s119 := (xq113.2.2.2.2.2 m 36 (by rw [tm]; decide)).trans lp86k5
                          have s120 := (xq113.2.2.2.2.2 m 47 (by rw [tm]; decide)).trans lp86k6
                          have s121 := (xq113.2.2.2.2.2 m 48 (by rw [tm]; decide)).trans lp86k7
                          have pr122 := gEl.fr xq113.2 (by decide) (fun _ => rfl) lp86k9
                          refine gz_s 1 (pc' := 266) (L' := [some (.ref m), some (.int (zi b)), some (.int (zi p)), some (.int (zi kk)), some (.int (zi zq55)), some (.int (zi (zq55 / 16))), some (.int (zi (zq55 % 16))), some (.int (zi (-z84))), some (.int (zi lf)), some (.int (zi go))]) (S' := [.ref m]) rfl ?_
                          refine gs_gtk rfl (by decide) rfl sq113.1 tm rfl rfl efq113_0 ?_
                          by_cases hc123 : (fq113_0 : Int) = 0
                          · refine gy_ifT (pc' := 273) rfl (by decide) (by decide) (by omega) hc123 ?_
                            refine gz_s 2 (pc' := 276) (L' := [some (.ref m), some (.int (zi b)), some (.int (zi p)), some (.int (zi kk)), some (.int (zi zq55)), some (.int (zi (zq55 / 16))), some (.int (zi (zq55 % 16))), some (.int (zi (-z84))), some (.int (zi lf)), some (.int (zi go))]) (S' := [.int (zi 1), .int (zi (zq55 % 16))]) rfl ?_
                            refine gy_icT (pc' := 289) rfl (by decide) (by decide) (by omega) (by omega) (by first | (simp [zc]; done) | (simp only [zc]; omega)) ?_
                            refine gy_s 2 (pc' := 5) (L' := [some (.ref m), some (.int (zi b)), some (.int (zi p)), some (.int ((zi kk) + zi 1)), some (.int (zi zq55)), some (.int (zi (zq55 / 16))), some (.int (zi (zq55 % 16))), some (.int (zi (-z84))), some (.int (zi lf)), some (.int (zi go))]) (S' := []) (L2 := [some (.ref m), some (.int (zi b)), some (.int (zi p)), some (.int (zi (kk + 1))), some (.int (zi zq55)), some (.int (zi (zq55 / 16))), some (.int (zi (zq55 % 16))), some (.int (zi (-z84))), some (.int (zi lf)), some (.int (zi go))]) (S2 := []) rfl (by simp only [zi_add, zi_sub, zi_mul, zi_neg, zi_and1, zi_and7, zi_and15, zi_and31, zi_and255]) (by simp only [zi_add, zi_sub, zi_mul, zi_neg, zi_and1, zi_and7, zi_and15, zi_and31, zi_and255]) ?_
                            exact gz_wk (ihlp2 hq113 (kk + 1) av kv fq113_0 rv (by omega) sq113 (by omega) (by omega) (by omega) (by omega) (by omega) (by omega) (by omega) (by omega) s114 s115 s116 s117 s120 s121 efq113_0 s118 pr122) (gLw.s (gLw.s (gLw.s (gLw.s (gLw.n (gLw.n (gLw.n (gLw.n (gLw.n (gLw.n gLw.z))))))))))
                          · refine gy_ifF rfl (by decide) (by decide) (by omega) hc123 ?_
                            exact gz_end (I := .return_) (len := 1) rfl (Or.inl rfl) ⟨sq113, av, kv, fq113_0, rfl, s120, (by omega), (by omega), s121, (by omega), (by omega), efq113_0, (by omega), (by omega), (by omega), (by omega), (by omega)⟩
                        · refine gy_icF rfl (by decide) (by decide) (by omega) (by omega) hc112 ?_
                          refine gz_s 1 (pc' := 178) (L' := [some (.ref m), some (.int (zi b)), some (.int (zi p)), some (.int (zi kk)), some (.int (zi zq55)), some (.int (zi (zq55 / 16))), some (.int (zi (zq55 % 16))), some (.int (zi (-z84))), some (.int (zi lf)), some (.int (zi go))]) (S' := [.ref m]) rfl ?_
                          refine gs_gtr rfl (by decide) rfl sh87.1 tm rfl rfl rfl (fun c124 ec124 tc124 => ?_)
                          refine gy_s 3 (pc' := 184) (L' := [some (.ref m), some (.int (zi b)), some (.int (zi p)), some (.int (zi kk)), some (.int (zi zq55)), some (.int (zi (zq55 / 16))), some (.int (zi (zq55 % 16))), some (.int (zi (-z84))), some (.int (zi lf)), some (.int (zi go))]) (S' := [.int ((zi p) + (zi kk)), .ref c124]) (L2 := [some (.ref m), some (.int (zi b)), some (.int (zi p)), some (.int (zi kk)), some (.int (zi zq55)), some (.int (zi (zq55 / 16))), some (.int (zi (zq55 % 16))), some (.int (zi (-z84))), some (.int (zi lf)), some (.int (zi go))]) (S2 := [.int (zi (p + kk)), .ref c124]) rfl (by simp only [zi_add, zi_sub, zi_mul, zi_neg, zi_and1, zi_and7, zi_and15, zi_and31, zi_and255]) (by simp only [zi_add, zi_sub, zi_mul, zi_neg, zi_and1, zi_and7, zi_and15, zi_and31, zi_and255]) ?_
                          have hl125 : 12288 ≤ h87.2.2.2.1 c124 ∧ h87.2.2.2.1 c124 ≤ 12288 := gJ.rowl (G := gGG) sh87.1 tc124 rfl
                          refine gs_ald rfl (by decide) sh87.1 tc124 rfl rfl rfl (by decide) (fun _ => rfl) (by omega) (by omega) (fun z126 ez126 az126 bz126 => ?_)
                          by_cases hc127 : (z126 : Int) = 0
                          · refine gy_ifT (pc' := 212) rfl (by decide) (by decide) (by omega) hc127 ?_
                            refine gz_s 1 (pc' := 214) (L' := [some (.ref m), some (.int (zi b)), some (.int (zi p)), some (.int (zi kk)), some (.int (zi zq55)), some (.int (zi (zq55 / 16))), some (.int (zi (zq55 % 16))), some (.int (zi (-z84))), some (.int (zi lf)), some (.int (zi go))]) (S' := [.int (zi lf)]) rfl ?_
                            by_cases hc128 : (lf : Int) ≤ 0
                            · refine gy_ifT (pc' := 221) rfl (by decide) (by decide) (by omega) hc128 ?_
                              refine gy_s 4 (pc' := 229) (L' := [some (.ref m), some (.int (zi b)), some (.int (zi p)), some (.int (zi kk)), some (.int (zi zq55)), some (.int (zi (zq55 / 16))), some (.int (zi (zq55 % 16))), some (.int (zi (-z84))), some (.int ((zi lf) + zi (-1))), some (.int (zi 0))]) (S' := [.int (zi 0)]) (L2 := [some (.ref m), some (.int (zi b)), some (.int (zi p)), some (.int (zi kk)), some (.int (zi zq55)), some (.int (zi (zq55 / 16))), some (.int (zi (zq55 % 16))), some (.int (zi (-z84))), some (.int (zi (lf + (-1)))), some (.int (zi 0))]) (S2 := [.int (zi 0)]) rfl (by simp only [zi_add, zi_sub, zi_mul, zi_neg, zi_and1, zi_and7, zi_and15, zi_and31, zi_and255]) (by simp only [zi_add, zi_sub, zi_mul, zi_neg, zi_and1, zi_and7, zi_and15, zi_and31, zi_and255]) ?_
                              refine gy_ifT (pc' := 238) rfl (by decide) (by decide) (by omega) (by first | (simp [zc]; done) | (simp only [zc]; omega)) ?_
                              refine gz_s 3 (pc' := 164) (L' := [some (.ref m), some (.int (zi b)), some (.int (zi p)), some (.int (zi kk)), some (.int (zi zq55)), some (.int (zi (zq55 / 16))), some (.int (zi (zq55 % 16))), some (.int (zi (-z84))), some (.int (zi (lf + (-1)))), some (.int (zi 0))]) (S' := []) rfl ?_
                              exact gz_wk (ihlp86 h87 kk (lf + (-1)) 0 av kv uv (by omega) sh87 (by omega) (by omega) (by omega) (by omega) (by omega) (by omega) (by omega) (by omega) (by omega) (by omega) (by omega) lp86k0 lp86k1 lp86k2 lp86k3 lp86k4 lp86k5 lp86k6 lp86k7 lp86k8 lp86k9) (gLw.s (gLw.s (gLw.s (gLw.s (gLw.s (gLw.s (gLw.s (gLw.s (gLw.s (gLw.s gLw.z))))))))))
                            · refine gy_ifF rfl (by decide) (by decide) (by omega) hc128 ?_
                              refine gy_s 5 (pc' := 229) (L' := [some (.ref m), some (.int (zi b)), some (.int (zi p)), some (.int (zi kk)), some (.int (zi zq55)), some (.int (zi (zq55 / 16))), some (.int (zi (zq55 % 16))), some (.int (zi (-z84))), some (.int ((zi lf) + zi (-1))), some (.int (zi 1))]) (S' := [.int (zi 1)]) (L2 := [some (.ref m), some (.int (zi b)), some (.int (zi p)), some (.int (zi kk)), some (.int (zi zq55)), some (.int (zi (zq55 / 16))), some (.int (zi (zq55 % 16))), some (.int (zi (-z84))), some (.int (zi (lf + (-1)))), some (.int (zi 1))]) (S2 := [.int (zi 1)]) rfl (by simp only [zi_add, zi_sub, zi_mul, zi_neg, zi_and1, zi_and7, zi_and15, zi_and31, zi_and255]) (by simp only [zi_add, zi_sub, zi_mul, zi_neg, zi_and1, zi_and7, zi_and15, zi_and31, zi_and255]) ?_
                              refine gy_ifF rfl (by decide) (by decide) (by omega) (by first | (simp [zc]; done) | (simp only [zc]; omega)) ?_
                              refine gy_s 6 (pc' := 164) (L' := [some (.ref m), some (.int (zi b)), some (.int (zi p)), some (.int ((zi kk) + (zi 1))), some (.int (zi zq55)), some (.int (zi (zq55 / 16))), some (.int (zi (zq55 % 16))), some (.int (zi (-z84))), some (.int (zi (lf + (-1)))), some (.int (zi 1))]) (S' := []) (L2 := [some (.ref m), some (.int (zi b)), some (.int (zi p)), some (.int (zi (kk + 1))), some (.int (zi zq55)), some (.int (zi (zq55 / 16))), some (.int (zi (zq55 % 16))), some (.int (zi (-z84))), some (.int (zi (lf + (-1)))), some (.int (zi 1))]) (S2 := []) rfl (by simp only [zi_add, zi_sub, zi_mul, zi_neg, zi_and1, zi_and7, zi_and15, zi_and31, zi_and255]) (by simp only [zi_add, zi_sub, zi_mul, zi_neg, zi_and1, zi_and7, zi_and15, zi_and31, zi_and255]) ?_
                              exact gz_wk (ihlp86 h87 (kk + 1) (lf + (-1)) 1 av kv uv (by omega) sh87 (by omega) (by omega) (by omega) (by omega) (by omega) (by omega) (by omega) (by omega) (by omega) (by omega) (by omega) lp86k0 lp86k1 lp86k2 lp86k3 lp86k4 lp86k5 lp86k6 lp86k7 lp86k8 lp86k9) (gLw.s (gLw.s (gLw.s (gLw.s (gLw.s (gLw.s (gLw.s (gLw.s (gLw.s (gLw.s gLw.z))))))))))
                          · refine gy_ifF rfl (by decide) (by decide) (by omega) hc127 ?_
                            refine gy_s 4 (pc' := 192) (L' := [some (.ref m), some (.int (zi b)), some (.int (zi p)), some (.int (zi kk)), some (.int (zi zq55)), some (.int (zi (zq55 / 16))), some (.int (zi (zq55 % 16))), some (.int (zi (-z84))), some (.int (zi lf)), some (.int (zi go))]) (S' := [.int ((zi p) + (zi kk)), .ref m]) (L2 := [some (.ref m), some (.int (zi b)), some (.int (zi p)), some (.int (zi kk)), some (.int (zi zq55)), some (.int (zi (zq55 / 16))), some (.int (zi (zq55 % 16))), some (.int (zi (-z84))), some (.int (zi lf)), some (.int (zi go))]) (S2 := [.int (zi (p + kk)), .ref m]) rfl (by simp only [zi_add, zi_sub, zi_mul, zi_neg, zi_and1, zi_and7, zi_and15, zi_and31, zi_and255]) (by simp only [zi_add, zi_sub, zi_mul, zi_neg, zi_and1, zi_and7, zi_and15, zi_and31, zi_and255]) ?_
                            refine gz_call rfl (by decide) rfl (by decide) (by decide) (gcal_of rfl rfl rfl (Nat.le_of_ble_eq_true rfl) (gJ.recv (G := gGG) sh87.1 tm rfl rfl)) (mm_grow _ sh87.1 m tm (p + kk) (by omega) av lp86k6 (by omega) kv lp86k7 (by omega) sz lp86k0 (by omega) uv lp86k8 (by omega) lw lp86k1 (by omega) (by omega)) (fun q129 _ wq129 => ?_)
                            obtain ⟨pq129, oq129, hq129⟩ := q129
                            obtain ⟨xq129, fq129_0, fq129_1, fq129_2, gq129, efq129_0, afq129_0, bfq129_0, efq129_1, afq129_1, bfq129_1, efq129_2, afq129_2, bfq129_2, uq129_0, uq129_1, uq129_2⟩ := wq129
                            refine ⟨_, gq129, ?_⟩
                            show gz gPP gGG gcn _ _ 195 [some (.ref m), some (.int (zi b)), some (.int (zi p)), some (.int (zi kk)), some (.int (zi zq55)), some (.int (zi (zq55 / 16))), some (.int (zi (zq55 % 16))), some (.int (zi (-z84))), some (.int (zi lf)), some (.int (zi go))] [] hq129 _
                            have sq129 := gSs.tr sh87 xq129 (by decide)
                            have s130 := (xq129.2.2.2.2.2 m 3 (by rw [tm]; decide)).trans lp86k0
                            have s131 := (xq129.2.2.2.2.2 m 44 (by rw [tm]; decide)).trans lp86k1
                            have s132 := (xq129.2.2.2.2.2 m 41 (by rw [tm]; decide)).trans lp86k2
                            have s133 := (xq129.2.2.2.2.2 m 42 (by rw [tm]; decide)).trans lp86k3
                            have s134 := (xq129.2.2.2.2.2 m 45 (by rw [tm]; decide)).trans lp86k4
                            have s135 := (xq129.2.2.2.2.2 m 36 (by rw [tm]; decide)).trans lp86k5
                            have s136 := (xq129.2.2.2.2.2 m 37 (by rw [tm]; decide)).trans ec124
                            have pr137 := gEl.fr xq129.2 (by decide) (fun _ => rfl) lp86k9
                            refine gz_s 1 (pc' := 196) (L' := [some (.ref m), some (.int (zi b)), some (.int (zi p)), some (.int (zi kk)), some (.int (zi zq55)), some (.int (zi (zq55 / 16))), some (.int (zi (zq55 % 16))), some (.int (zi (-z84))), some (.int (zi lf)), some (.int (zi go))]) (S' := [.ref m]) rfl ?_
                            refine gs_gtk rfl (by decide) rfl sq129.1 tm rfl rfl efq129_2 ?_
                            by_cases hc138 : ¬ (fq129_2 : Int) = 0
                            · refine gy_ifT (pc' := 206) rfl (by decide) (by decide) (by omega) hc138 ?_
                              refine gz_s 4 (pc' := 229) (L' := [some (.ref m), some (.int (zi b)), some (.int (zi p)), some (.int (zi kk)), some (.int (zi zq55)), some (.int (zi (zq55 / 16))), some (.int (zi (zq55 % 16))), some (.int (zi (-z84))), some (.int (zi lf)), some (.int (zi 0))]) (S' := [.int (zi 0)]) rfl ?_
                              refine gy_ifT (pc' := 238) rfl (by decide) (by decide) (by omega) (by first | (simp [zc]; done) | (simp only [zc]; omega)) ?_
                              refine gz_s 3 (pc' := 164) (L' := [some (.ref m), some (.int (zi b)), some (.int (zi p)), some (.int (zi kk)), some (.int (zi zq55)), some (.int (zi (zq55 / 16))), some (.int (zi (zq55 % 16))), some (.int (zi (-z84))), some (.int (zi lf)), some (.int (zi 0))]) (S' := []) rfl ?_
                              exact gz_wk (ihlp86 hq129 kk lf 0 fq129_0 fq129_1 fq129_2 (by omega) sq129 (by omega) (by omega) (by omega) (by omega) (by omega) (by omega) (by omega) (by omega) (by omega) (by omega) (by omega) s130 s131 s132 s133 s134 s135 efq129_0 efq129_1 efq129_2 pr137) (gLw.s (gLw.s (gLw.s (gLw.s (gLw.s (gLw.s (gLw.s (gLw.s (gLw.s (gLw.s gLw.z))))))))))
                            · refine gy_ifF rfl (by decide) (by decide) (by omega) hc138 ?_
                              refine gz_s 5 (pc' := 229) (L' := [some (.ref m), some (.int (zi b)), some (.int (zi p)), some (.int (zi kk)), some (.int (zi zq55)), some (.int (zi (zq55 / 16))), some (.int (zi (zq55 % 16))), some (.int (zi (-z84))), some (.int (zi lf)), some (.int (zi 1))]) (S' := [.int (zi 1)]) rfl ?_
                              refine gy_ifF rfl (by decide) (by decide) (by omega) (by first | (simp [zc]; done) | (simp only [zc]; omega)) ?_
                              refine gy_s 6 (pc' := 164) (L' := [some (.ref m), some (.int (zi b)), some (.int (zi p)), some (.int ((zi kk) + (zi 1))), some (.int (zi zq55)), some (.int (zi (zq55 / 16))), some (.int (zi (zq55 % 16))), some (.int (zi (-z84))), some (.int (zi lf)), some (.int (zi 1))]) (S' := []) (L2 := [some (.ref m), some (.int (zi b)), some (.int (zi p)), some (.int (zi (kk + 1))), some (.int (zi zq55)), some (.int (zi (zq55 / 16))), some (.int (zi (zq55 % 16))), some (.int (zi (-z84))), some (.int (zi lf)), some (.int (zi 1))]) (S2 := []) rfl (by simp only [zi_add, zi_sub, zi_mul, zi_neg, zi_and1, zi_and7, zi_and15, zi_and31, zi_and255]) (by simp only [zi_add, zi_sub, zi_mul, zi_neg, zi_and1, zi_and7, zi_and15, zi_and31, zi_and255]) ?_
                              exact gz_wk (ihlp86 hq129 (kk + 1) lf 1 fq129_0 fq129_1 fq129_2 (by omega) sq129 (by omega) (by omega) (by omega) (by omega) (by omega) (by omega) (by omega) (by omega) (by omega) (by omega) (by omega) s130 s131 s132 s133 s134 s135 efq129_0 efq129_1 efq129_2 pr137) (gLw.s (gLw.s (gLw.s (gLw.s (gLw.s (gLw.s (gLw.s (gLw.s (gLw.s (gLw.s gLw.z))))))))))
                  exact gz_wk (lp86 _ hq75 k (zq55 / 16) 0 fq75_0 fq75_1 fq75_2 (Nat.lt_succ_self _) sq75 (by omega) (by omega) (by omega) (by omega) (by omega) (by omega) (by omega) (by omega) (by omega) (by omega) (by omega) s76 s77 s78 s79 s80 s81 efq75_0 efq75_1 efq75_2 pr82) (gLw.s (gLw.s (gLw.s (gLw.s (gLw.s (gLw.s (gLw.s (gLw.s (gLw.s (gLw.s gLw.z))))))))))
                · refine gy_ifF rfl (by decide) (by decide) (by omega) hc85 ?_
                  refine gz_s 3 (pc' := 164) (L' := [some (.ref m), some (.int (zi b)), some (.int (zi p)), some (.int (zi k)), some (.int (zi zq55)), some (.int (zi (zq55 / 16))), some (.int (zi (zq55 % 16))), some (.int (zi (-z84))), some (.int (zi (zq55 / 16))), some (.int (zi 1))]) (S' := []) rfl ?_
                  have lp139 : ∀ (fu : Nat) (h140 : gH) (kk : Int) (lf : Int) (go : Int) (av : Int) (kv : Int) (uv : Int), (2 * (200 - kk) + go).toNat < fu → gSs rT 1027 ty [1045, 1046, 1047, 1048, 20999, 23999] h h140 → (1 ≤ kk ∧ kk ≤ 64) → ((-1) ≤ lf ∧ lf ≤ 15) → (0 ≤ go ∧ go ≤ 1) → (0 ≤ av ∧ av ≤ 2001) → (0 ≤ kv ∧ kv ≤ 7) → (0 ≤ uv ∧ uv ≤ 1) → (kv = 0 ∨ av < sz) → (a0 ≤ av) → (uv = 0 → u0 = 0) → (k ≤ kk) → (go = 1 → 0 ≤ lf) → h140.2.2.2.2 m 3 = .int (zi sz) → h140.2.2.2.2 m 44 = .int (zi lw) → h140.2.2.2.2 m 41 = .int (zi fr) → h140.2.2.2.2 m 42 = .int (zi tt) → h140.2.2.2.2 m 45 = .int (zi rv) → h140.2.2.2.2 m 36 = .ref c51 → h140.2.2.2.2 m 47 = .int (zi av) → h140.2.2.2.2 m 48 = .int (zi kv) → h140.2.2.2.2 m 46 = .int (zi uv) → gEl ty 22 b 4 7 h140 → gz gPP gGG gcn (d + 5) gt161 164 [some (.ref m), some (.int (zi b)), some (.int (zi p)), some (.int (zi kk)), some (.int (zi zq55)), some (.int (zi (zq55 / 16))), some (.int (zi (zq55 % 16))), some (.int (zi (-z84))), some (.int (zi lf)), some (.int (zi go))] [] h140 (fun q _ => gSs rT 1027 ty [1045, 1046, 1047, 1048, 20999, 23999] h q.2.2 ∧ ∃ a1 k1 u1 : Int, gfin gt161 q.1 q.2.1 = some none ∧ q.2.2.2.2.2.2 m 47 = .int (zi a1) ∧ 0 ≤ a1 ∧ a1 ≤ 2001 ∧ q.2.2.2.2.2.2 m 48 = .int (zi k1) ∧ 0 ≤ k1 ∧ k1 ≤ 7 ∧ q.2.2.2.2.2.2 m 46 = .int (zi u1) ∧ 0 ≤ u1 ∧ u1 ≤ 1 ∧ (k1 = 0 ∨ a1 < sz) ∧ (a0 ≤ a1) ∧ (u1 = 0 → u0 = 0)) := by
                    intro fu
                    induction fu with
                    | zero => intro h140 kk lf go av kv uv hm; exact absurd hm (Nat.not_lt_zero _)
                    | succ fu ihlp139 =>
                      intro h140 kk lf go av kv uv lp139m sh140 lp139f0 lp139f1 lp139f2 lp139f3 lp139f4 lp139f5 lp139f6 lp139f7 lp139f8 lp139f9 lp139f10 lp139k0 lp139k1 lp139k2 lp139k3 lp139k4 lp139k5 lp139k6 lp139k7 lp139k8 lp139k9
                      refine gz_s 1 (pc' := 166) (L' := [some (.ref m), some (.int (zi b)), some (.int (zi p)), some (.int (zi kk)), some (.int (zi zq55)), some (.int (zi (zq55 / 16))), some (.int (zi (zq55 % 16))), some (.int (zi (-z84))), some (.int (zi lf)), some (.int (zi go))]) (S' := [.int (zi go)]) rfl ?_
                      by_cases hc141 : (go : Int) = 0
                      · refine gy_ifT (pc' := 243) rfl (by decide) (by decide) (by omega) hc141 ?_
                        refine gz_s 3 (pc' := 246) (L' := [some (.ref m), some (.int (zi b)), some (.int (zi p)), some (.int (zi kk)), some (.int (zi zq55)), some (.int (zi (zq55 / 16))), some (.int (zi (zq55 % 16))), some (.int (zi (-z84))), some (.int (zi lf)), some (.int (zi go))]) (S' := [.ref m, .int (zi kk), .ref m]) rfl ?_
                        refine gs_gtk rfl (by decide) rfl sh140.1 tm rfl rfl lp139k3 ?_
                        by_cases hc142 : (kk : Int) ≤ tt
                        · refine gy_icT (pc' := 257) rfl (by decide) (by decide) (by omega) (by omega) hc142 ?_
                          refine gz_s 2 (pc' := 262) (L' := [some (.ref m), some (.int (zi b)), some (.int (zi p)), some (.int (zi kk)), some (.int (zi zq55)), some (.int (zi (zq55 / 16))), some (.int (zi (zq55 % 16))), some (.int (zi (-z84))), some (.int (zi lf)), some (.int (zi go))]) (S' := [.int (zi 1), .ref m]) rfl ?_
                          refine gz_call rfl (by decide) rfl (by decide) (by decide) (gcal_of rfl rfl rfl (Nat.le_of_ble_eq_true rfl) (gJ.recv (G := gGG) sh140.1 tm rfl rfl)) (mm_keep _ sh140.1 m tm 1 (by omega) uv lp139k8 (by omega)) (fun q143 _ wq143 => ?_)
                          obtain ⟨pq143, oq143, hq143⟩ := q143
                          obtain ⟨xq143, fq143_0, gq143, efq143_0, afq143_0, bfq143_0, uq143_0⟩ := wq143
                          refine ⟨_, gq143, ?_⟩
                          show gz gPP gGG gcn _ _ 265 [some (.ref m), some (.int (zi b)), some (.int (zi p)), some (.int (zi kk)), some (.int (zi zq55)), some (.int (zi (zq55 / 16))), some (.int (zi (zq55 % 16))), some (.int (zi (-z84))), some (.int (zi lf)), some (.int (zi go))] [] hq143 _
                          have sq143 := gSs.tr sh140 xq143 (by decide)
                          have s144 := (xq143.2.2.2.2.2 m 3 (by rw [tm]; decide)).trans lp139k0
                          have s145 := (xq143.2.2.2.2.2 m 44 (by rw [tm]; decide)).trans lp139k1
                          have s146 := (xq143.2.2.2.2.2 m 41 (by rw [tm]; decide)).trans lp139k2
                          have s147 := (xq143.2.2.2.2.2 m 42 (by rw [tm]; decide)).trans lp139k3
                          have s148 := (xq143.2.2.2.2.2 m 45 (by rw [tm]; decide)).trans lp139k4
                          have s149 := (xq143.2.2.2.2.2 m 36 (by rw [tm]; decide)).trans lp139k5
                          have s150 := (xq143.2.2.2.2.2 m 47 (by rw [tm]; decide)).trans lp139k6
                          have s151 := (xq143.2.2.2.2.2 m 48 (by rw [tm]; decide)).trans lp139k7
                          have pr152 := gEl.fr xq143.2 (by decide) (fun _ => rfl) lp139k9
                          refine gz_s 1 (pc' := 266) (L' := [some (.ref m), some (.int (zi b)), some (.int (zi p)), some (.int (zi kk)), some (.int (zi zq55)), some (.int (zi (zq55 / 16))), some (.int (zi (zq55 % 16))), some (.int (zi (-z84))), some (.int (zi lf)), some (.int (zi go))]) (S' := [.ref m]) rfl ?_
                          refine gs_gtk rfl (by decide) rfl sq143.1 tm rfl rfl efq143_0 ?_
                          by_cases hc153 : (fq143_0 : Int) = 0
                          · refine gy_ifT (pc' := 273) rfl (by decide) (by decide) (by omega) hc153 ?_
                            refine gz_s 2 (pc' := 276) (L' := [some (.ref m), some (.int (zi b)), some (.int (zi p)), some (.int (zi kk)), some (.int (zi zq55)), some (.int (zi (zq55 / 16))), some (.int (zi (zq55 % 16))), some (.int (zi (-z84))), some (.int (zi lf)), some (.int (zi go))]) (S' := [.int (zi 1), .int (zi (zq55 % 16))]) rfl ?_
                            refine gy_icT (pc' := 289) rfl (by decide) (by decide) (by omega) (by omega) (by first | (simp [zc]; done) | (simp only [zc]; omega)) ?_
                            refine gy_s 2 (pc' := 5) (L' := [some (.ref m), some (.int (zi b)), some (.int (zi p)), some (.int ((zi kk) + zi 1)), some (.int (zi zq55)), some (.int (zi (zq55 / 16))), some (.int (zi (zq55 % 16))), some (.int (zi (-z84))), some (.int (zi lf)), some (.int (zi go))]) (S' := []) (L2 := [some (.ref m), some (.int (zi b)), some (.int (zi p)), some (.int (zi (kk + 1))), some (.int (zi zq55)), some (.int (zi (zq55 / 16))), some (.int (zi (zq55 % 16))), some (.int (zi (-z84))), some (.int (zi lf)), some (.int (zi go))]) (S2 := []) rfl (by simp only [zi_add, zi_sub, zi_mul, zi_neg, zi_and1, zi_and7, zi_and15, zi_and31, zi_and255]) (by simp only [zi_add, zi_sub, zi_mul, zi_neg, zi_and1, zi_and7, zi_and15, zi_and31, zi_and255]) ?_
                            exact gz_wk (ihlp2 hq143 (kk + 1) av kv fq143_0 rv (by omega) sq143 (by omega) (by omega) (by omega) (by omega) (by omega) (by omega) (by omega) (by omega) s144 s145 s146 s147 s150 s151 efq143_0 s148 pr152) (gLw.s (gLw.s (gLw.s (gLw.s (gLw.n (gLw.n (gLw.n (gLw.n (gLw.n (gLw.n gLw.z))))))))))
                          · refine gy_ifF rfl (by decide) (by decide) (by omega) hc153 ?_
                            exact gz_end (I := .return_) (len := 1) rfl (Or.inl rfl) ⟨sq143, av, kv, fq143_0, rfl, s150, (by omega), (by omega), s151, (by omega), (by omega), efq143_0, (by omega), (by omega), (by omega), (by omega), (by omega)⟩
                        · refine gy_icF rfl (by decide) (by decide) (by omega) (by omega) hc142 ?_
                          refine gz_s 1 (pc' := 254) (L' := [some (.ref m), some (.int (zi b)), some (.int (zi p)), some (.int (zi kk)), some (.int (zi zq55)), some (.int (zi (zq55 / 16))), some (.int (zi (zq55 % 16))), some (.int (zi (-z84))), some (.int (zi lf)), some (.int (zi go))]) (S' := [.int (zi (zq55 % 16)), .ref m]) rfl ?_
                          refine gy_ifT (pc' := 261) rfl (by decide) (by decide) (by omega) (by first | (simp [zc]; done) | (simp only [zc]; omega)) ?_
                          refine gz_s 1 (pc' := 262) (L' := [some (.ref m), some (.int (zi b)), some (.int (zi p)), some (.int (zi kk)), some (.int (zi zq55)), some (.int (zi (zq55 / 16))), some (.int (zi (zq55 % 16))), some (.int (zi (-z84))), some (.int (zi lf)), some (.int (zi go))]) (S' := [.int (zi 0), .ref m]) rfl ?_
                          refine gz_call rfl (by decide) rfl (by decide) (by decide) (gcal_of rfl rfl rfl (Nat.le_of_ble_eq_true rfl) (gJ.recv (G := gGG) sh140.1 tm rfl rfl)) (mm_keep _ sh140.1 m tm 0 (by omega) uv lp139k8 (by omega)) (fun q154 _ wq154 => ?_)
                          obtain ⟨pq154, oq154, hq154⟩ := q154
                          obtain ⟨xq154, fq154_0, gq154, efq154_0, afq154_0, bfq154_0, uq154_0⟩ := wq154
                          refine ⟨_, gq154, ?_⟩
                          show gz gPP gGG gcn _ _ 265 [some (.ref m), some (.int (zi b)), some (.int (zi p)), some (.int (zi kk)), some (.int (zi zq55)), some (.int (zi (zq55 / 16))), some (.int (zi (zq55 % 16))), some (.int (zi (-z84))), some (.int (zi lf)), some (.int (zi go))] [] hq154 _
                          have sq154 := gSs.tr sh140 xq154 (by decide)
                          have s155 := (xq154.2.2.2.2.2 m 3 (by rw [tm]; decide)).trans lp139k0
                          have s156 := (xq154.2.2.2.2.2 m 44 (by rw [tm]; decide)).trans lp139k1
                          have s157 := (xq154.2.2.2.2.2 m 41 (by rw [tm]; decide)).trans lp139k2
                          have s158 := (xq154.2.2.2.2.2 m 42 (by rw [tm]; decide)).trans lp139k3
                          have s159 := (xq154.2.2.2.2.2 m 45 (by rw [tm]; decide)).trans lp139k4
                          have s160 := (xq154.2.2.2.2.2 m 36 (by rw [tm]; decide)).trans lp139k5
                          have s161 := (xq154.2.2.2.2.2 m 47 (by rw [tm]; decide)).trans lp139k6
                          have s162 := (xq154.2.2.2.2.2 m 48 (by rw [tm]; decide)).trans lp139k7
                          have pr163 := gEl.fr xq154.2 (by decide) (fun _ => rfl) lp139k9
                          refine gz_s 1 (pc' := 266) (L' := [some (.ref m), some (.int (zi b)), some (.int (zi p)), some (.int (zi kk)), some (.int (zi zq55)), some (.int (zi (zq55 / 16))), some (.int (zi (zq55 % 16))), some (.int (zi (-z84))), some (.int (zi lf)), some (.int (zi go))]) (S' := [.ref m]) rfl ?_
                          refine gs_gtk rfl (by decide) rfl sq154.1 tm rfl rfl efq154_0 ?_
                          by_cases hc164 : (fq154_0 : Int) = 0
                          · refine gy_ifT (pc' := 273) rfl (by decide) (by decide) (by omega) hc164 ?_
                            refine gz_s 2 (pc' := 276) (L' := [some (.ref m), some (.int (zi b)), some (.int (zi p)), some (.int (zi kk)), some (.int (zi zq55)), some (.int (zi (zq55 / 16))), some (.int (zi (zq55 % 16))), some (.int (zi (-z84))), some (.int (zi lf)), some (.int (zi go))]) (S' := [.int (zi 1), .int (zi (zq55 % 16))]) rfl ?_
                            refine gy_icT (pc' := 289) rfl (by decide) (by decide) (by omega) (by omega) (by first | (simp [zc]; done) | (simp only [zc]; omega)) ?_
                            refine gy_s 2 (pc' := 5) (L' := [some (.ref m), some (.int (zi b)), some (.int (zi p)), some (.int ((zi kk) + zi 1)), some (.int (zi zq55)), some (.int (zi (zq55 / 16))), some (.int (zi (zq55 % 16))), some (.int (zi (-z84))), some (.int (zi lf)), some (.int (zi go))]) (S' := []) (L2 := [some (.ref m), some (.int (zi b)), some (.int (zi p)), some (.int (zi (kk + 1))), some (.int (zi zq55)), some (.int (zi (zq55 / 16))), some (.int (zi (zq55 % 16))), some (.int (zi (-z84))), some (.int (zi lf)), some (.int (zi go))]) (S2 := []) rfl (by simp only [zi_add, zi_sub, zi_mul, zi_neg, zi_and1, zi_and7, zi_and15, zi_and31, zi_and255]) (by simp only [zi_add, zi_sub, zi_mul, zi_neg, zi_and1, zi_and7, zi_and15, zi_and31, zi_and255]) ?_
                            exact gz_wk (ihlp2 hq154 (kk + 1) av kv fq154_0 rv (by omega) sq154 (by omega) (by omega) (by omega) (by omega) (by omega) (by omega) (by omega) (by omega) s155 s156 s157 s158 s161 s162 efq154_0 s159 pr163) (gLw.s (gLw.s (gLw.s (gLw.s (gLw.n (gLw.n (gLw.n (gLw.n (gLw.n (gLw.n gLw.z))))))))))
                          · refine gy_ifF rfl (by decide) (by decide) (by omega) hc164 ?_
                            exact gz_end (I := .return_) (len := 1) rfl (Or.inl rfl) ⟨sq154, av, kv, fq154_0, rfl, s161, (by omega), (by omega), s162, (by omega), (by omega), efq154_0, (by omega), (by omega), (by omega), (by omega), (by omega)⟩
                      · refine gy_ifF rfl (by decide) (by decide) (by omega) hc141 ?_
                        refine gz_s 2 (pc' := 171) (L' := [some (.ref m), some (.int (zi b)), some (.int (zi p)), some (.int (zi kk)), some (.int (zi zq55)), some (.int (zi (zq55 / 16))), some (.int (zi (zq55 % 16))), some (.int (zi (-z84))), some (.int (zi lf)), some (.int (zi go))]) (S' := [.ref m, .int (zi kk)]) rfl ?_
                        refine gs_gtk rfl (by decide) rfl sh140.1 tm rfl rfl lp139k3 ?_
                        by_cases hc165 : (tt : Int) < kk
                        · refine gy_icT (pc' := 243) rfl (by decide) (by decide) (by omega) (by omega) hc165 ?_
                          refine gz_s 3 (pc' := 246) (L' := [some (.ref m), some (.int (zi b)), some (.int (zi p)), some (.int (zi kk)), some (.int (zi zq55)), some (.int (zi (zq55 / 16))), some (.int (zi (zq55 % 16))), some (.int (zi (-z84))), some (.int (zi lf)), some (.int (zi go))]) (S' := [.ref m, .int (zi kk), .ref m]) rfl ?_
                          refine gs_gtk rfl (by decide) rfl sh140.1 tm rfl rfl lp139k3 ?_
                          refine gy_icF rfl (by decide) (by decide) (by omega) (by omega) (by first | (simp [zc]; done) | (simp only [zc]; omega)) ?_
                          refine gz_s 1 (pc' := 254) (L' := [some (.ref m), some (.int (zi b)), some (.int (zi p)), some (.int (zi kk)), some (.int (zi zq55)), some (.int (zi (zq55 / 16))), some (.int (zi (zq55 % 16))), some (.int (zi (-z84))), some (.int (zi lf)), some (.int (zi go))]) (S' := [.int (zi (zq55 % 16)), .ref m]) rfl ?_
                          refine gy_ifT (pc' := 261) rfl (by decide) (by decide) (by omega) (by first | (simp [zc]; done) | (simp only [zc]; omega)) ?_
                          refine gz_s 1 (pc' := 262) (L' := [some (.ref m), some (.int (zi b)), some (.int (zi p)), some (.int (zi kk)), some (.int (zi zq55)), some (.int (zi (zq55 / 16))), some (.int (zi (zq55 % 16))), some (.int (zi (-z84))), some (.int (zi lf)), some (.int (zi go))]) (S' := [.int (zi 0), .ref m]) rfl ?_
                          refine gz_call rfl (by decide) rfl (by decide) (by decide) (gcal_of rfl rfl rfl (Nat.le_of_ble_eq_true rfl) (gJ.recv (G := gGG) sh140.1 tm rfl rfl)) (mm_keep _ sh140.1 m tm 0 (by omega) uv lp139k8 (by omega)) (fun q166 _ wq166 => ?_)
                          obtain ⟨pq166, oq166, hq166⟩ := q166
                          obtain ⟨xq166, fq166_0, gq166, efq166_0, afq166_0, bfq166_0, uq166_0⟩ := wq166
                          refine ⟨_, gq166, ?_⟩
                          show gz gPP gGG gcn _ _ 265 [some (.ref m), some (.int (zi b)), some (.int (zi p)), some (.int (zi kk)), some (.int (zi zq55)), some (.int (zi (zq55 / 16))), some (.int (zi (zq55 % 16))), some (.int (zi (-z84))), some (.int (zi lf)), some (.int (zi go))] [] hq166 _
                          have sq166 := gSs.tr sh140 xq166 (by decide)
                          have s167 := (xq166.2.2.2.2.2 m 3 (by rw [tm]; decide)).trans lp139k0
                          have s168 := (xq166.2.2.2.2.2 m 44 (by rw [tm]; decide)).trans lp139k1
                          have s169 := (xq166.2.2.2.2.2 m 41 (by rw [tm]; decide)).trans lp139k2
                          have s170 := (xq166.2.2.2.2.2 m 42 (by rw [tm]; decide)).trans lp139k3
                          have s171 := (xq166.2.2.2.2.2 m 45 (by rw [tm]; decide)).trans lp139k4
                          have s172 := (xq166.2.2.2.2.2 m 36 (by rw [tm]; decide)).trans lp139k5
                          have s173 := (xq166.2.2.2.2.2 m 47 (by rw [tm]; decide)).trans lp139k6
                          have s174 := (xq166.2.2.2.2.2 m 48 (by rw [tm]; decide)).trans lp139k7
                          have pr175 := gEl.fr xq166.2 (by decide) (fun _ => rfl) lp139k9
                          refine gz_s 1 (pc' := 266) (L' := [some (.ref m), some (.int (zi b)), some (.int (zi p)), some (.int (zi kk)), some (.int (zi zq55)), some (.int (zi (zq55 / 16))), some (.int (zi (zq55 % 16))), some (.int (zi (-z84))), some (.int (zi lf)), some (.int (zi go))]) (S' := [.ref m]) rfl ?_
                          refine gs_gtk rfl (by decide) rfl sq166.1 tm rfl rfl efq166_0 ?_
                          by_cases hc176 : (fq166_0 : Int) = 0
                          · refine gy_ifT (pc' := 273) rfl (by decide) (by decide) (by omega) hc176 ?_
                            refine gz_s 2 (pc' := 276) (L' := [some (.ref m), some (.int (zi b)), some (.int (zi p)), some (.int (zi kk)), some (.int (zi zq55)), some (.int (zi (zq55 / 16))), some (.int (zi (zq55 % 16))), some (.int (zi (-z84))), some (.int (zi lf)), some (.int (zi go))]) (S' := [.int (zi 1), .int (zi (zq55 % 16))]) rfl ?_
                            refine gy_icT (pc' := 289) rfl (by decide) (by decide) (by omega) (by omega) (by first | (simp [zc]; done) | (simp only [zc]; omega)) ?_
                            refine gy_s 2 (pc' := 5) (L' := [some (.ref m), some (.int (zi b)), some (.int (zi p)), some (.int ((zi kk) + zi 1)), some (.int (zi zq55)), some (.int (zi (zq55 / 16))), some (.int (zi (zq55 % 16))), some (.int (zi (-z84))), some (.int (zi lf)), some (.int (zi go))]) (S' := []) (L2 := [some (.ref m), some (.int (zi b)), some (.int (zi p)), some (.int (zi (kk + 1))), some (.int (zi zq55)), some (.int (zi (zq55 / 16))), some (.int (zi (zq55 % 16))), some (.int (zi (-z84))), some (.int (zi lf)), some (.int (zi go))]) (S2 := []) rfl (by simp only [zi_add, zi_sub, zi_mul, zi_neg, zi_and1, zi_and7, zi_and15, zi_and31, zi_and255]) (by simp only [zi_add, zi_sub, zi_mul, zi_neg, zi_and1, zi_and7, zi_and15, zi_and31, zi_and255]) ?_
                            exact gz_wk (ihlp2 hq166 (kk + 1) av kv fq166_0 rv (by omega) sq166 (by omega) (by omega) (by omega) (by omega) (by omega) (by omega) (by omega) (by omega) s167 s168 s169 s170 s173 s174 efq166_0 s171 pr175) (gLw.s (gLw.s (gLw.s (gLw.s (gLw.n (gLw.n (gLw.n (gLw.n (gLw.n (gLw.n gLw.z))))))))))
                          · refine gy_ifF rfl (by decide) (by decide) (by omega) hc176 ?_
                            exact gz_end (I := .return_) (len := 1) rfl (Or.inl rfl) ⟨sq166, av, kv, fq166_0, rfl, s173, (by omega), (by omega), s174, (by omega), (by omega), efq166_0, (by omega), (by omega), (by omega), (by omega), (by omega)⟩
                        · refine gy_icF rfl (by decide) (by decide) (by omega) (by omega) hc165 ?_
                          refine gz_s 1 (pc' := 178) (L' := [some (.ref m), some (.int (zi b)), some (.int (zi p)), some (.int (zi kk)), some (.int (zi zq55)), some (.int (zi (zq55 / 16))), some (.int (zi (zq55 % 16))), some (.int (zi (-z84))), some (.int (zi lf)), some (.int (zi go))]) (S' := [.ref m]) rfl ?_
                          refine gs_gtr rfl (by decide) rfl sh140.1 tm rfl rfl rfl (fun c177 ec177 tc177 => ?_)
                          refine gy_s 3 (pc' := 184) (L' := [some (.ref m), some (.int (zi b)), some (.int (zi p)), some (.int (zi kk)), some (.int (zi zq55)), some (.int (zi (zq55 / 16))), some (.int (zi (zq55 % 16))), some (.int (zi (-z84))), some (.int (zi lf)), some (.int (zi go))]) (S' := [.int ((zi p) + (zi kk)), .ref c177]) (L2 := [some (.ref m), some (.int (zi b)), some (.int (zi p)), some (.int (zi kk)), some (.int (zi zq55)), some (.int (zi (zq55 / 16))), some (.int (zi (zq55 % 16))), some (.int (zi (-z84))), some (.int (zi lf)), some (.int (zi go))]) (S2 := [.int (zi (p + kk)), .ref c177]) rfl (by simp only [zi_add, zi_sub, zi_mul, zi_neg, zi_and1, zi_and7, zi_and15, zi_and31, zi_and255]) (by simp only [zi_add, zi_sub, zi_mul, zi_neg, zi_and1, zi_and7, zi_and15, zi_and31, zi_and255]) ?_
                          have hl178 : 12288 ≤ h140.2.2.2.1 c177 ∧ h140.2.2.2.1 c177 ≤ 12288 := gJ.rowl (G := gGG) sh140.1 tc177 rfl
                          refine gs_ald rfl (by decide) sh140.1 tc177 rfl rfl rfl (by decide) (fun _ => rfl) (by omega) (by omega) (fun z179 ez179 az179 bz179 => ?_)
                          by_cases hc180 : (z179 : Int) = 0
                          · refine gy_ifT (pc' := 212) rfl (by decide) (by decide) (by omega) hc180 ?_
                            refine gz_s 1 (pc' := 214) (L' := [some (.ref m), some (.int (zi b)), some (.int (zi p)), some (.int (zi kk)), some (.int (zi zq55)), some (.int (zi (zq55 / 16))), some (.int (zi (zq55 % 16))), some (.int (zi (-z84))), some (.int (zi lf)), some (.int (zi go))]) (S' := [.int (zi lf)]) rfl ?_
                            by_cases hc181 : (lf : Int) ≤ 0
                            · refine gy_ifT (pc' := 221) rfl (by decide) (by decide) (by omega) hc181 ?_
                              refine gy_s 4 (pc' := 229) (L' := [some (.ref m), some (.int (zi b)), some (.int (zi p)), some (.int (zi kk)), some (.int (zi zq55)), some (.int (zi (zq55 / 16))), some (.int (zi (zq55 % 16))), some (.int (zi (-z84))), some (.int ((zi lf) + zi (-1))), some (.int (zi 0))]) (S' := [.int (zi 0)]) (L2 := [some (.ref m), some (.int (zi b)), some (.int (zi p)), some (.int (zi kk)), some (.int (zi zq55)), some (.int (zi (zq55 / 16))), some (.int (zi (zq55 % 16))), some (.int (zi (-z84))), some (.int (zi (lf + (-1)))), some (.int (zi 0))]) (S2 := [.int (zi 0)]) rfl (by simp only [zi_add, zi_sub, zi_mul, zi_neg, zi_and1, zi_and7, zi_and15, zi_and31, zi_and255]) (by simp only [zi_add, zi_sub, zi_mul, zi_neg, zi_and1, zi_and7, zi_and15, zi_and31, zi_and255]) ?_
                              refine gy_ifT (pc' := 238) rfl (by decide) (by decide) (by omega) (by first | (simp [zc]; done) | (simp only [zc]; omega)) ?_
                              refine gz_s 3 (pc' := 164) (L' := [some (.ref m), some (.int (zi b)), some (.int (zi p)), some (.int (zi kk)), some (.int (zi zq55)), some (.int (zi (zq55 / 16))), some (.int (zi (zq55 % 16))), some (.int (zi (-z84))), some (.int (zi (lf + (-1)))), some (.int (zi 0))]) (S' := []) rfl ?_
                              exact gz_wk (ihlp139 h140 kk (lf + (-1)) 0 av kv uv (by omega) sh140 (by omega) (by omega) (by omega) (by omega) (by omega) (by omega) (by omega) (by omega) (by omega) (by omega) (by omega) lp139k0 lp139k1 lp139k2 lp139k3 lp139k4 lp139k5 lp139k6 lp139k7 lp139k8 lp139k9) (gLw.s (gLw.s (gLw.s (gLw.s (gLw.s (gLw.s (gLw.s (gLw.s (gLw.s (gLw.s gLw.z))))))))))
                            · refine gy_ifF rfl (by decide) (by decide) (by omega) hc181 ?_
                              refine gy_s 5 (pc' := 229) (L' := [some (.ref m), some (.int (zi b)), some (.int (zi p)), some (.int (zi kk)), some (.int (zi zq55)), some (.int (zi (zq55 / 16))), some (.int (zi (zq55 % 16))), some (.int (zi (-z84))), some (.int ((zi lf) + zi (-1))), some (.int (zi 1))]) (S' := [.int (zi 1)]) (L2 := [some (.ref m), some (.int (zi b)), some (.int (zi p)), some (.int (zi kk)), some (.int (zi zq55)), some (.int (zi (zq55 / 16))), some (.int (zi (zq55 % 16))), some (.int (zi (-z84))), some (.int (zi (lf + (-1)))), some (.int (zi 1))]) (S2 := [.int (zi 1)]) rfl (by simp only [zi_add, zi_sub, zi_mul, zi_neg, zi_and1, zi_and7, zi_and15, zi_and31, zi_and255]) (by simp only [zi_add, zi_sub, zi_mul, zi_neg, zi_and1, zi_and7, zi_and15, zi_and31, zi_and255]) ?_
                              refine gy_ifF rfl (by decide) (by decide) (by omega) (by first | (simp [zc]; done) | (simp only [zc]; omega)) ?_
                              refine gy_s 6 (pc' := 164) (L' := [some (.ref m), some (.int (zi b)), some (.int (zi p)), some (.int ((zi kk) + (zi 1))), some (.int (zi zq55)), some (.int (zi (zq55 / 16))), some (.int (zi (zq55 % 16))), some (.int (zi (-z84))), some (.int (zi (lf + (-1)))), some (.int (zi 1))]) (S' := []) (L2 := [some (.ref m), some (.int (zi b)), some (.int (zi p)), some (.int (zi (kk + 1))), some (.int (zi zq55)), some (.int (zi (zq55 / 16))), some (.int (zi (zq55 % 16))), some (.int (zi (-z84))), some (.int (zi (lf + (-1)))), some (.int (zi 1))]) (S2 := []) rfl (by simp only [zi_add, zi_sub, zi_mul, zi_neg, zi_and1, zi_and7, zi_and15, zi_and31, zi_and255]) (by simp only [zi_add, zi_sub, zi_mul, zi_neg, zi_and1, zi_and7, zi_and15, zi_and31, zi_and255]) ?_
                              exact gz_wk (ihlp139 h140 (kk + 1) (lf + (-1)) 1 av kv uv (by omega) sh140 (by omega) (by omega) (by omega) (by omega) (by omega) (by omega) (by omega) (by omega) (by omega) (by omega) (by omega) lp139k0 lp139k1 lp139k2 lp139k3 lp139k4 lp139k5 lp139k6 lp139k7 lp139k8 lp139k9) (gLw.s (gLw.s (gLw.s (gLw.s (gLw.s (gLw.s (gLw.s (gLw.s (gLw.s (gLw.s gLw.z))))))))))
                          · refine gy_ifF rfl (by decide) (by decide) (by omega) hc180 ?_
                            refine gy_s 4 (pc' := 192) (L' := [some (.ref m), some (.int (zi b)), some (.int (zi p)), some (.int (zi kk)), some (.int (zi zq55)), some (.int (zi (zq55 / 16))), some (.int (zi (zq55 % 16))), some (.int (zi (-z84))), some (.int (zi lf)), some (.int (zi go))]) (S' := [.int ((zi p) + (zi kk)), .ref m]) (L2 := [some (.ref m), some (.int (zi b)), some (.int (zi p)), some (.int (zi kk)), some (.int (zi zq55)), some (.int (zi (zq55 / 16))), some (.int (zi (zq55 % 16))), some (.int (zi (-z84))), some (.int (zi lf)), some (.int (zi go))]) (S2 := [.int (zi (p + kk)), .ref m]) rfl (by simp only [zi_add, zi_sub, zi_mul, zi_neg, zi_and1, zi_and7, zi_and15, zi_and31, zi_and255]) (by simp only [zi_add, zi_sub, zi_mul, zi_neg, zi_and1, zi_and7, zi_and15, zi_and31, zi_and255]) ?_
                            refine gz_call rfl (by decide) rfl (by decide) (by decide) (gcal_of rfl rfl rfl (Nat.le_of_ble_eq_true rfl) (gJ.recv (G := gGG) sh140.1 tm rfl rfl)) (mm_grow _ sh140.1 m tm (p + kk) (by omega) av lp139k6 (by omega) kv lp139k7 (by omega) sz lp139k0 (by omega) uv lp139k8 (by omega) lw lp139k1 (by omega) (by omega)) (fun q182 _ wq182 => ?_)
                            obtain ⟨pq182, oq182, hq182⟩ := q182
                            obtain ⟨xq182, fq182_0, fq182_1, fq182_2, gq182, efq182_0, afq182_0, bfq182_0, efq182_1, afq182_1, bfq182_1, efq182_2, afq182_2, bfq182_2, uq182_0, uq182_1, uq182_2⟩ := wq182
                            refine ⟨_, gq182, ?_⟩
                            show gz gPP gGG gcn _ _ 195 [some (.ref m), some (.int (zi b)), some (.int (zi p)), some (.int (zi kk)), some (.int (zi zq55)), some (.int (zi (zq55 / 16))), some (.int (zi (zq55 % 16))), some (.int (zi (-z84))), some (.int (zi lf)), some (.int (zi go))] [] hq182 _
                            have sq182 := gSs.tr sh140 xq182 (by decide)
                            have s183 := (xq182.2.2.2.2.2 m 3 (by rw [tm]; decide)).trans lp139k0
                            have s184 := (xq182.2.2.2.2.2 m 44 (by rw [tm]; decide)).trans lp139k1
                            have s185 := (xq182.2.2.2.2.2 m 41 (by rw [tm]; decide)).trans lp139k2
                            have s186 := (xq182.2.2.2.2.2 m 42 (by rw [tm]; decide)).trans lp139k3
                            have s187 := (xq182.2.2.2.2.2 m 45 (by rw [tm]; decide)).trans lp139k4
                            have s188 := (xq182.2.2.2.2.2 m 36 (by rw [tm]; decide)).trans lp139k5
                            have s189 := (xq182.2.2.2.2.2 m 37 (by rw [tm]; decide)).trans ec177
                            have pr190 := gEl.fr xq182.2 (by decide) (fun _ => rfl) lp139k9
                            refine gz_s 1 (pc' := 196) (L' := [some (.ref m), some (.int (zi b)), some (.int (zi p)), some (.int (zi kk)), some (.int (zi zq55)), some (.int (zi (zq55 / 16))), some (.int (zi (zq55 % 16))), some (.int (zi (-z84))), some (.int (zi lf)), some (.int (zi go))]) (S' := [.ref m]) rfl ?_
                            refine gs_gtk rfl (by decide) rfl sq182.1 tm rfl rfl efq182_2 ?_
                            by_cases hc191 : ¬ (fq182_2 : Int) = 0
                            · refine gy_ifT (pc' := 206) rfl (by decide) (by decide) (by omega) hc191 ?_
                              refine gz_s 4 (pc' := 229) (L' := [some (.ref m), some (.int (zi b)), some (.int (zi p)), some (.int (zi kk)), some (.int (zi zq55)), some (.int (zi (zq55 / 16))), some (.int (zi (zq55 % 16))), some (.int (zi (-z84))), some (.int (zi lf)), some (.int (zi 0))]) (S' := [.int (zi 0)]) rfl ?_
                              refine gy_ifT (pc' := 238) rfl (by decide) (by decide) (by omega) (by first | (simp [zc]; done) | (simp only [zc]; omega)) ?_
                              refine gz_s 3 (pc' := 164) (L' := [some (.ref m), some (.int (zi b)), some (.int (zi p)), some (.int (zi kk)), some (.int (zi zq55)), some (.int (zi (zq55 / 16))), some (.int (zi (zq55 % 16))), some (.int (zi (-z84))), some (.int (zi lf)), some (.int (zi 0))]) (S' := []) rfl ?_
                              exact gz_wk (ihlp139 hq182 kk lf 0 fq182_0 fq182_1 fq182_2 (by omega) sq182 (by omega) (by omega) (by omega) (by omega) (by omega) (by omega) (by omega) (by omega) (by omega) (by omega) (by omega) s183 s184 s185 s186 s187 s188 efq182_0 efq182_1 efq182_2 pr190) (gLw.s (gLw.s (gLw.s (gLw.s (gLw.s (gLw.s (gLw.s (gLw.s (gLw.s (gLw.s gLw.z))))))))))
                            · refine gy_ifF rfl (by decide) (by decide) (by omega) hc191 ?_
                              refine gz_s 5 (pc' := 229) (L' := [some (.ref m), some (.int (zi b)), some (.int (zi p)), some (.int (zi kk)), some (.int (zi zq55)), some (.int (zi (zq55 / 16))), some (.int (zi (zq55 % 16))), some (.int (zi (-z84))), some (.int (zi lf)), some (.int (zi 1))]) (S' := [.int (zi 1)]) rfl ?_
                              refine gy_ifF rfl (by decide) (by decide) (by omega) (by first | (simp [zc]; done) | (simp only [zc]; omega)) ?_
                              refine gy_s 6 (pc' := 164) (L' := [some (.ref m), some (.int (zi b)), some (.int (zi p)), some (.int ((zi kk) + (zi 1))), some (.int (zi zq55)), some (.int (zi (zq55 / 16))), some (.int (zi (zq55 % 16))), some (.int (zi (-z84))), some (.int (zi lf)), some (.int (zi 1))]) (S' := []) (L2 := [some (.ref m), some (.int (zi b)), some (.int (zi p)), some (.int (zi (kk + 1))), some (.int (zi zq55)), some (.int (zi (zq55 / 16))), some (.int (zi (zq55 % 16))), some (.int (zi (-z84))), some (.int (zi lf)), some (.int (zi 1))]) (S2 := []) rfl (by simp only [zi_add, zi_sub, zi_mul, zi_neg, zi_and1, zi_and7, zi_and15, zi_and31, zi_and255]) (by simp only [zi_add, zi_sub, zi_mul, zi_neg, zi_and1, zi_and7, zi_and15, zi_and31, zi_and255]) ?_
                              exact gz_wk (ihlp139 hq182 (kk + 1) lf 1 fq182_0 fq182_1 fq182_2 (by omega) sq182 (by omega) (by omega) (by omega) (by omega) (by omega) (by omega) (by omega) (by omega) (by omega) (by omega) (by omega) s183 s184 s185 s186 s187 s188 efq182_0 efq182_1 efq182_2 pr190) (gLw.s (gLw.s (gLw.s (gLw.s (gLw.s (gLw.s (gLw.s (gLw.s (gLw.s (gLw.s gLw.z))))))))))
                  exact gz_wk (lp139 _ hq75 k (zq55 / 16) 1 fq75_0 fq75_1 fq75_2 (Nat.lt_succ_self _) sq75 (by omega) (by omega) (by omega) (by omega) (by omega) (by omega) (by omega) (by omega) (by omega) (by omega) (by omega) s76 s77 s78 s79 s80 s81 efq75_0 efq75_1 efq75_2 pr82) (gLw.s (gLw.s (gLw.s (gLw.s (gLw.s (gLw.s (gLw.s (gLw.s (gLw.s (gLw.s gLw.z))))))))))
              · refine gy_icF rfl (by decide) (by decide) (by omega) (by omega) hc83 ?_
                refine gz_s 2 (pc' := 130) (L' := [some (.ref m), some (.int (zi b)), some (.int (zi p)), some (.int (zi k)), some (.int (zi zq55)), some (.int (zi (zq55 / 16))), some (.int (zi (zq55 % 16))), none, none, none]) (S' := [.ref m, .int (zi 1)]) rfl ?_
                refine gs_gtk rfl (by decide) rfl sq75.1 tm rfl rfl s77 ?_
                refine gy_sh1 rfl (by decide) (by omega) (fun z192 az192 bz192 cz192 => ?_)
                refine gz_s 5 (pc' := 151) (L' := [some (.ref m), some (.int (zi b)), some (.int (zi p)), some (.int (zi k)), some (.int (zi zq55)), some (.int (zi (zq55 / 16))), some (.int (zi (zq55 % 16))), some (.int (zi z192)), some (.int (zi (zq55 / 16))), none]) (S' := [.ref m]) rfl ?_
                refine gs_gtk rfl (by decide) rfl sq75.1 tm rfl rfl efq75_2 ?_
                by_cases hc193 : ¬ (fq75_2 : Int) = 0
                · refine gy_ifT (pc' := 161) rfl (by decide) (by decide) (by omega) hc193 ?_
                  refine gz_s 2 (pc' := 164) (L' := [some (.ref m), some (.int (zi b)), some (.int (zi p)), some (.int (zi k)), some (.int (zi zq55)), some (.int (zi (zq55 / 16))), some (.int (zi (zq55 % 16))), some (.int (zi z192)), some (.int (zi (zq55 / 16))), some (.int (zi 0))]) (S' := []) rfl ?_
                  have lp194 : ∀ (fu : Nat) (h195 : gH) (kk : Int) (lf : Int) (go : Int) (av : Int) (kv : Int) (uv : Int), (2 * (200 - kk) + go).toNat < fu → gSs rT 1027 ty [1045, 1046, 1047, 1048, 20999, 23999] h h195 → (1 ≤ kk ∧ kk ≤ 64) → ((-1) ≤ lf ∧ lf ≤ 15) → (0 ≤ go ∧ go ≤ 1) → (0 ≤ av ∧ av ≤ 2001) → (0 ≤ kv ∧ kv ≤ 7) → (0 ≤ uv ∧ uv ≤ 1) → (kv = 0 ∨ av < sz) → (a0 ≤ av) → (uv = 0 → u0 = 0) → (k ≤ kk) → (go = 1 → 0 ≤ lf) → h195.2.2.2.2 m 3 = .int (zi sz) → h195.2.2.2.2 m 44 = .int (zi lw) → h195.2.2.2.2 m 41 = .int (zi fr) → h195.2.2.2.2 m 42 = .int (zi tt) → h195.2.2.2.2 m 45 = .int (zi rv) → h195.2.2.2.2 m 36 = .ref c51 → h195.2.2.2.2 m 47 = .int (zi av) → h195.2.2.2.2 m 48 = .int (zi kv) → h195.2.2.2.2 m 46 = .int (zi uv) → gEl ty 22 b 4 7 h195 → gz gPP gGG gcn (d + 5) gt161 164 [some (.ref m), some (.int (zi b)), some (.int (zi p)), some (.int (zi kk)), some (.int (zi zq55)), some (.int (zi (zq55 / 16))), some (.int (zi (zq55 % 16))), some (.int (zi z192)), some (.int (zi lf)), some (.int (zi go))] [] h195 (fun q _ => gSs rT 1027 ty [1045, 1046, 1047, 1048, 20999, 23999] h q.2.2 ∧ ∃ a1 k1 u1 : Int, gfin gt161 q.1 q.2.1 = some none ∧ q.2.2.2.2.2.2 m 47 = .int (zi a1) ∧ 0 ≤ a1 ∧ a1 ≤ 2001 ∧ q.2.2.2.2.2.2 m 48 = .int (zi k1) ∧ 0 ≤ k1 ∧ k1 ≤ 7 ∧ q.2.2.2.2.2.2 m 46 = .int (zi u1) ∧ 0 ≤ u1 ∧ u1 ≤ 1 ∧ (k1 = 0 ∨ a1 < sz) ∧ (a0 ≤ a1) ∧ (u1 = 0 → u0 = 0)) := by
                    intro fu
                    induction fu with
                    | zero => intro h195 kk lf go av kv uv hm; exact absurd hm (Nat.not_lt_zero _)
                    | succ fu ihlp194 =>
                      intro h195 kk lf go av kv uv lp194m sh195 lp194f0 lp194f1 lp194f2 lp194f3 lp194f4 lp194f5 lp194f6 lp194f7 lp194f8 lp194f9 lp194f10 lp194k0 lp194k1 lp194k2 lp194k3 lp194k4 lp194k5 lp194k6 lp194k7 lp194k8 lp194k9
                      refine gz_s 1 (pc' := 166) (L' := [some (.ref m), some (.int (zi b)), some (.int (zi p)), some (.int (zi kk)), some (.int (zi zq55)), some (.int (zi (zq55 / 16))), some (.int (zi (zq55 % 16))), some (.int (zi z192)), some (.int (zi lf)), some (.int (zi go))]) (S' := [.int (zi go)]) rfl ?_
                      by_cases hc196 : (go : Int) = 0
                      · refine gy_ifT (pc' := 243) rfl (by decide) (by decide) (by omega) hc196 ?_
                        refine gz_s 3 (pc' := 246) (L' := [some (.ref m), some (.int (zi b)), some (.int (zi p)), some (.int (zi kk)), some (.int (zi zq55)), some (.int (zi (zq55 / 16))), some (.int (zi (zq55 % 16))), some (.int (zi z192)), some (.int (zi lf)), some (.int (zi go))]) (S' := [.ref m, .int (zi kk), .ref m]) rfl ?_
                        refine gs_gtk rfl (by decide) rfl sh195.1 tm rfl rfl lp194k3 ?_
                        by_cases hc197 : (kk : Int) ≤ tt
                        · refine gy_icT (pc' := 257) rfl (by decide) (by decide) (by omega) (by omega) hc197 ?_
                          refine gz_s 2 (pc' := 262) (L' := [some (.ref m), some (.int (zi b)), some (.int (zi p)), some (.int (zi kk)), some (.int (zi zq55)), some (.int (zi (zq55 / 16))), some (.int (zi (zq55 % 16))), some (.int (zi z192)), some (.int (zi lf)), some (.int (zi go))]) (S' := [.int (zi 1), .ref m]) rfl ?_
                          refine gz_call rfl (by decide) rfl (by decide) (by decide) (gcal_of rfl rfl rfl (Nat.le_of_ble_eq_true rfl) (gJ.recv (G := gGG) sh195.1 tm rfl rfl)) (mm_keep _ sh195.1 m tm 1 (by omega) uv lp194k8 (by omega)) (fun q198 _ wq198 => ?_)
                          obtain ⟨pq198, oq198, hq198⟩ := q198
                          obtain ⟨xq198, fq198_0, gq198, efq198_0, afq198_0, bfq198_0, uq198_0⟩ := wq198
                          refine ⟨_, gq198, ?_⟩
                          show gz gPP gGG gcn _ _ 265 [some (.ref m), some (.int (zi b)), some (.int (zi p)), some (.int (zi kk)), some (.int (zi zq55)), some (.int (zi (zq55 / 16))), some (.int (zi (zq55 % 16))), some (.int (zi z192)), some (.int (zi lf)), some (.int (zi go))] [] hq198 _
                          have sq198 := gSs.tr sh195 xq198 (by decide)
                          have s199 := (xq198.2.2.2.2.2 m 3 (by rw [tm]; decide)).trans lp194k0
                          have s200 := (xq198.2.2.2.2.2 m 44 (by rw [tm]; decide)).trans lp194k1
                          have s201 := (xq198.2.2.2.2.2 m 41 (by rw [tm]; decide)).trans lp194k2
                          have s202 := (xq198.2.2.2.2.2 m 42 (by rw [tm]; decide)).trans lp194k3
                          have s203 := (xq198.2.2.2.2.2 m 45 (by rw [tm]; decide)).trans lp194k4
                          have s204 := (xq198.2.2.2.2.2 m 36 (by rw [tm]; decide)).trans lp194k5
                          have s205 := (xq198.2.2.2.2.2 m 47 (by rw [tm]; decide)).trans lp194k6
                          have s206 := (xq198.2.2.2.2.2 m 48 (by rw [tm]; decide)).trans lp194k7
                          have pr207 := gEl.fr xq198.2 (by decide) (fun _ => rfl) lp194k9
                          refine gz_s 1 (pc' := 266) (L' := [some (.ref m), some (.int (zi b)), some (.int (zi p)), some (.int (zi kk)), some (.int (zi zq55)), some (.int (zi (zq55 / 16))), some (.int (zi (zq55 % 16))), some (.int (zi z192)), some (.int (zi lf)), some (.int (zi go))]) (S' := [.ref m]) rfl ?_
                          refine gs_gtk rfl (by decide) rfl sq198.1 tm rfl rfl efq198_0 ?_
                          by_cases hc208 : (fq198_0 : Int) = 0
                          · refine gy_ifT (pc' := 273) rfl (by decide) (by decide) (by omega) hc208 ?_
                            refine gz_s 2 (pc' := 276) (L' := [some (.ref m), some (.int (zi b)), some (.int (zi p)), some (.int (zi kk)), some (.int (zi zq55)), some (.int (zi (zq55 / 16))), some (.int (zi (zq55 % 16))), some (.int (zi z192)), some (.int (zi lf)), some (.int (zi go))]) (S' := [.int (zi 1), .int (zi (zq55 % 16))]) rfl ?_
                            refine gy_icT (pc' := 289) rfl (by decide) (by decide) (by omega) (by omega) (by first | (simp [zc]; done) | (simp only [zc]; omega)) ?_
                            refine gy_s 2 (pc' := 5) (L' := [some (.ref m), some (.int (zi b)), some (.int (zi p)), some (.int ((zi kk) + zi 1)), some (.int (zi zq55)), some (.int (zi (zq55 / 16))), some (.int (zi (zq55 % 16))), some (.int (zi z192)), some (.int (zi lf)), some (.int (zi go))]) (S' := []) (L2 := [some (.ref m), some (.int (zi b)), some (.int (zi p)), some (.int (zi (kk + 1))), some (.int (zi zq55)), some (.int (zi (zq55 / 16))), some (.int (zi (zq55 % 16))), some (.int (zi z192)), some (.int (zi lf)), some (.int (zi go))]) (S2 := []) rfl (by simp only [zi_add, zi_sub, zi_mul, zi_neg, zi_and1, zi_and7, zi_and15, zi_and31, zi_and255]) (by simp only [zi_add, zi_sub, zi_mul, zi_neg, zi_and1, zi_and7, zi_and15, zi_and31, zi_and255]) ?_
                            exact gz_wk (ihlp2 hq198 (kk + 1) av kv fq198_0 rv (by omega) sq198 (by omega) (by omega) (by omega) (by omega) (by omega) (by omega) (by omega) (by omega) s199 s200 s201 s202 s205 s206 efq198_0 s203 pr207) (gLw.s (gLw.s (gLw.s (gLw.s (gLw.n (gLw.n (gLw.n (gLw.n (gLw.n (gLw.n gLw.z))))))))))
                          · refine gy_ifF rfl (by decide) (by decide) (by omega) hc208 ?_
                            exact gz_end (I := .return_) (len := 1) rfl (Or.inl rfl) ⟨sq198, av, kv, fq198_0, rfl, s205, (by omega), (by omega), s206, (by omega), (by omega), efq198_0, (by omega), (by omega), (by omega), (by omega), (by omega)⟩
                        · refine gy_icF rfl (by decide) (by decide) (by omega) (by omega) hc197 ?_
                          refine gz_s 1 (pc' := 254) (L' := [some (.ref m), some (.int (zi b)), some (.int (zi p)), some (.int (zi kk)), some (.int (zi zq55)), some (.int (zi (zq55 / 16))), some (.int (zi (zq55 % 16))), some (.int (zi z192)), some (.int (zi lf)), some (.int (zi go))]) (S' := [.int (zi (zq55 % 16)), .ref m]) rfl ?_
                          refine gy_ifT (pc' := 261) rfl (by decide) (by decide) (by omega) (by first | (simp [zc]; done) | (simp only [zc]; omega)) ?_
                          refine gz_s 1 (pc' := 262) (L' := [some (.ref m), some (.int (zi b)), some (.int (zi p)), some (.int (zi kk)), some (.int (zi zq55)), some (.int (zi (zq55 / 16))), some (.int (zi (zq55 % 16))), some (.int (zi z192)), some (.int (zi lf)), some (.int (zi go))]) (S' := [.int (zi 0), .ref m]) rfl ?_
                          refine gz_call rfl (by decide) rfl (by decide) (by decide) (gcal_of rfl rfl rfl (Nat.le_of_ble_eq_true rfl) (gJ.recv (G := gGG) sh195.1 tm rfl rfl)) (mm_keep _ sh195.1 m tm 0 (by omega) uv lp194k8 (by omega)) (fun q209 _ wq209 => ?_)
                          obtain ⟨pq209, oq209, hq209⟩ := q209
                          obtain ⟨xq209, fq209_0, gq209, efq209_0, afq209_0, bfq209_0, uq209_0⟩ := wq209
                          refine ⟨_, gq209, ?_⟩
                          show gz gPP gGG gcn _ _ 265 [some (.ref m), some (.int (zi b)), some (.int (zi p)), some (.int (zi kk)), some (.int (zi zq55)), some (.int (zi (zq55 / 16))), some (.int (zi (zq55 % 16))), some (.int (zi z192)), some (.int (zi lf)), some (.int (zi go))] [] hq209 _
                          have sq209 := gSs.tr sh195 xq209 (by decide)
                          have s210 := (xq209.2.2.2.2.2 m 3 (by rw [tm]; decide)).trans lp194k0
                          have s211 := (xq209.2.2.2.2.2 m 44 (by rw [tm]; decide)).trans lp194k1
                          have s212 := (xq209.2.2.2.2.2 m 41 (by rw [tm]; decide)).trans lp194k2
                          have s213 := (xq209.2.2.2.2.2 m 42 (by rw [tm]; decide)).trans lp194k3
                          have s214 := (xq209.2.2.2.2.2 m 45 (by rw [tm]; decide)).trans lp194k4
                          have s215 := (xq209.2.2.2.2.2 m 36 (by rw [tm]; decide)).trans lp194k5
                          have s216 := (xq209.2.2.2.2.2 m 47 (by rw [tm]; decide)).trans lp194k6
                          have s217 := (xq209.2.2.2.2.2 m 48 (by rw [tm]; decide)).trans lp194k7
                          have pr218 := gEl.fr xq209.2 (by decide) (fun _ => rfl) lp194k9
                          refine gz_s 1 (pc' := 266) (L' := [some (.ref m), some (.int (zi b)), some (.int (zi p)), some (.int (zi kk)), some (.int (zi zq55)), some (.int (zi (zq55 / 16))), some (.int (zi (zq55 % 16))), some (.int (zi z192)), some (.int (zi lf)), some (.int (zi go))]) (S' := [.ref m]) rfl ?_
                          refine gs_gtk rfl (by decide) rfl sq209.1 tm rfl rfl efq209_0 ?_
                          by_cases hc219 : (fq209_0 : Int) = 0
                          · refine gy_ifT (pc' := 273) rfl (by decide) (by decide) (by omega) hc219 ?_
                            refine gz_s 2 (pc' := 276) (L' := [some (.ref m), some (.int (zi b)), some (.int (zi p)), some (.int (zi kk)), some (.int (zi zq55)), some (.int (zi (zq55 / 16))), some (.int (zi (zq55 % 16))), some (.int (zi z192)), some (.int (zi lf)), some (.int (zi go))]) (S' := [.int (zi 1), .int (zi (zq55 % 16))]) rfl ?_
                            refine gy_icT (pc' := 289) rfl (by decide) (by decide) (by omega) (by omega) (by first | (simp [zc]; done) | (simp only [zc]; omega)) ?_
                            refine gy_s 2 (pc' := 5) (L' := [some (.ref m), some (.int (zi b)), some (.int (zi p)), some (.int ((zi kk) + zi 1)), some (.int (zi zq55)), some (.int (zi (zq55 / 16))), some (.int (zi (zq55 % 16))), some (.int (zi z192)), some (.int (zi lf)), some (.int (zi go))]) (S' := []) (L2 := [some (.ref m), some (.int (zi b)), some (.int (zi p)), some (.int (zi (kk + 1))), some (.int (zi zq55)), some (.int (zi (zq55 / 16))), some (.int (zi (zq55 % 16))), some (.int (zi z192)), some (.int (zi lf)), some (.int (zi go))]) (S2 := []) rfl (by simp only [zi_add, zi_sub, zi_mul, zi_neg, zi_and1, zi_and7, zi_and15, zi_and31, zi_and255]) (by simp only [zi_add, zi_sub, zi_mul, zi_neg, zi_and1, zi_and7, zi_and15, zi_and31, zi_and255]) ?_
                            exact gz_wk (ihlp2 hq209 (kk + 1) av kv fq209_0 rv (by omega) sq209 (by omega) (by omega) (by omega) (by omega) (by omega) (by omega) (by omega) (by omega) s210 s211 s212 s213 s216 s217 efq209_0 s214 pr218) (gLw.s (gLw.s (gLw.s (gLw.s (gLw.n (gLw.n (gLw.n (gLw.n (gLw.n (gLw.n gLw.z))))))))))
                          · refine gy_ifF rfl (by decide) (by decide) (by omega) hc219 ?_
                            exact gz_end (I := .return_) (len := 1) rfl (Or.inl rfl) ⟨sq209, av, kv, fq209_0, rfl, s216, (by omega), (by omega), s217, (by omega), (by omega), efq209_0, (by omega), (by omega), (by omega), (by omega), (by omega)⟩
                      · refine gy_ifF rfl (by decide) (by decide) (by omega) hc196 ?_
                        refine gz_s 2 (pc' := 171) (L' := [some (.ref m), some (.int (zi b)), some (.int (zi p)), some (.int (zi kk)), some (.int (zi zq55)), some (.int (zi (zq55 / 16))), some (.int (zi (zq55 % 16))), some (.int (zi z192)), some (.int (zi lf)), some (.int (zi go))]) (S' := [.ref m, .int (zi kk)]) rfl ?_
                        refine gs_gtk rfl (by decide) rfl sh195.1 tm rfl rfl lp194k3 ?_
                        by_cases hc220 : (tt : Int) < kk
                        · refine gy_icT (pc' := 243) rfl (by decide) (by decide) (by omega) (by omega) hc220 ?_
                          refine gz_s 3 (pc' := 246) (L' := [some (.ref m), some (.int (zi b)), some (.int (zi p)), some (.int (zi kk)), some (.int (zi zq55)), some (.int (zi (zq55 / 16))), some (.int (zi (zq55 % 16))), some (.int (zi z192)), some (.int (zi lf)), some (.int (zi go))]) (S' := [.ref m, .int (zi kk), .ref m]) rfl ?_
                          refine gs_gtk rfl (by decide) rfl sh195.1 tm rfl rfl lp194k3 ?_
                          refine gy_icF rfl (by decide) (by decide) (by omega) (by omega) (by first | (simp [zc]; done) | (simp only [zc]; omega)) ?_
                          refine gz_s 1 (pc' := 254) (L' := [some (.ref m), some (.int (zi b)), some (.int (zi p)), some (.int (zi kk)), some (.int (zi zq55)), some (.int (zi (zq55 / 16))), some (.int (zi (zq55 % 16))), some (.int (zi z192)), some (.int (zi lf)), some (.int (zi go))]) (S' := [.int (zi (zq55 % 16)), .ref m]) rfl ?_
                          refine gy_ifT (pc' := 261) rfl (by decide) (by decide) (by omega) (by first | (simp [zc]; done) | (simp only [zc]; omega)) ?_
                          refine gz_s 1 (pc' := 262) (L' := [some (.ref m), some (.int (zi b)), some (.int (zi p)), some (.int (zi kk)), some (.int (zi zq55)), some (.int (zi (zq55 / 16))), some (.int (zi (zq55 % 16))), some (.int (zi z192)), some (.int (zi lf)), some (.int (zi go))]) (S' := [.int (zi 0), .ref m]) rfl ?_
                          refine gz_call rfl (by decide) rfl (by decide) (by decide) (gcal_of rfl rfl rfl (Nat.le_of_ble_eq_true rfl) (gJ.recv (G := gGG) sh195.1 tm rfl rfl)) (mm_keep _ sh195.1 m tm 0 (by omega) uv lp194k8 (by omega)) (fun q221 _ wq221 => ?_)
                          obtain ⟨pq221, oq221, hq221⟩ := q221
                          obtain ⟨xq221, fq221_0, gq221, efq221_0, afq221_0, bfq221_0, uq221_0⟩ := wq221
                          refine ⟨_, gq221, ?_⟩
                          show gz gPP gGG gcn _ _ 265 [some (.ref m), some (.int (zi b)), some (.int (zi p)), some (.int (zi kk)), some (.int (zi zq55)), some (.int (zi (zq55 / 16))), some (.int (zi (zq55 % 16))), some (.int (zi z192)), some (.int (zi lf)), some (.int (zi go))] [] hq221 _
                          have sq221 := gSs.tr sh195 xq221 (by decide)
                          have s222 := (xq221.2.2.2.2.2 m 3 (by rw [tm]; decide)).trans lp194k0
                          have s223 := (xq221.2.2.2.2.2 m 44 (by rw [tm]; decide)).trans lp194k1
                          have s224 := (xq221.2.2.2.2.2 m 41 (by rw [tm]; decide)).trans lp194k2
                          have s225 := (xq221.2.2.2.2.2 m 42 (by rw [tm]; decide)).trans lp194k3
                          have s226 := (xq221.2.2.2.2.2 m 45 (by rw [tm]; decide)).trans lp194k4
                          have s227 := (xq221.2.2.2.2.2 m 36 (by rw [tm]; decide)).trans lp194k5
                          have s228 := (xq221.2.2.2.2.2 m 47 (by rw [tm]; decide)).trans lp194k6
                          have s229 := (xq221.2.2.2.2.2 m 48 (by rw [tm]; decide)).trans lp194k7
                          have pr230 := gEl.fr xq221.2 (by decide) (fun _ => rfl) lp194k9
                          refine gz_s 1 (pc' := 266) (L' := [some (.ref m), some (.int (zi b)), some (.int (zi p)), some (.int (zi kk)), some (.int (zi zq55)), some (.int (zi (zq55 / 16))), some (.int (zi (zq55 % 16))), some (.int (zi z192)), some (.int (zi lf)), some (.int (zi go))]) (S' := [.ref m]) rfl ?_
                          refine gs_gtk rfl (by decide) rfl sq221.1 tm rfl rfl efq221_0 ?_
                          by_cases hc231 : (fq221_0 : Int) = 0
                          · refine gy_ifT (pc' := 273) rfl (by decide) (by decide) (by omega) hc231 ?_
                            refine gz_s 2 (pc' := 276) (L' := [some (.ref m), some (.int (zi b)), some (.int (zi p)), some (.int (zi kk)), some (.int (zi zq55)), some (.int (zi (zq55 / 16))), some (.int (zi (zq55 % 16))), some (.int (zi z192)), some (.int (zi lf)), some (.int (zi go))]) (S' := [.int (zi 1), .int (zi (zq55 % 16))]) rfl ?_
                            refine gy_icT (pc' := 289) rfl (by decide) (by decide) (by omega) (by omega) (by first | (simp [zc]; done) | (simp only [zc]; omega)) ?_
                            refine gy_s 2 (pc' := 5) (L' := [some (.ref m), some (.int (zi b)), some (.int (zi p)), some (.int ((zi kk) + zi 1)), some (.int (zi zq55)), some (.int (zi (zq55 / 16))), some (.int (zi (zq55 % 16))), some (.int (zi z192)), some (.int (zi lf)), some (.int (zi go))]) (S' := []) (L2 := [some (.ref m), some (.int (zi b)), some (.int (zi p)), some (.int (zi (kk + 1))), some (.int (zi zq55)), some (.int (zi (zq55 / 16))), some (.int (zi (zq55 % 16))), some (.int (zi z192)), some (.int (zi lf)), some (.int (zi go))]) (S2 := []) rfl (by simp only [zi_add, zi_sub, zi_mul, zi_neg, zi_and1, zi_and7, zi_and15, zi_and31, zi_and255]) (by simp only [zi_add, zi_sub, zi_mul, zi_neg, zi_and1, zi_and7, zi_and15, zi_and31, zi_and255]) ?_
                            exact gz_wk (ihlp2 hq221 (kk + 1) av kv fq221_0 rv (by omega) sq221 (by omega) (by omega) (by omega) (by omega) (by omega) (by omega) (by omega) (by omega) s222 s223 s224 s225 s228 s229 efq221_0 s226 pr230) (gLw.s (gLw.s (gLw.s (gLw.s (gLw.n (gLw.n (gLw.n (gLw.n (gLw.n (gLw.n gLw.z))))))))))
                          · refine gy_ifF rfl (by decide) (by decide) (by omega) hc231 ?_
                            exact gz_end (I := .return_) (len := 1) rfl (Or.inl rfl) ⟨sq221, av, kv, fq221_0, rfl, s228, (by omega), (by omega), s229, (by omega), (by omega), efq221_0, (by omega), (by omega), (by omega), (by omega), (by omega)⟩
                        · refine gy_icF rfl (by decide) (by decide) (by omega) (by omega) hc220 ?_
                          refine gz_s 1 (pc' := 178) (L' := [some (.ref m), some (.int (zi b)), some (.int (zi p)), some (.int (zi kk)), some (.int (zi zq55)), some (.int (zi (zq55 / 16))), some (.int (zi (zq55 % 16))), some (.int (zi z192)), some (.int (zi lf)), some (.int (zi go))]) (S' := [.ref m]) rfl ?_
                          refine gs_gtr rfl (by decide) rfl sh195.1 tm rfl rfl rfl (fun c232 ec232 tc232 => ?_)
                          refine gy_s 3 (pc' := 184) (L' := [some (.ref m), some (.int (zi b)), some (.int (zi p)), some (.int (zi kk)), some (.int (zi zq55)), some (.int (zi (zq55 / 16))), some (.int (zi (zq55 % 16))), some (.int (zi z192)), some (.int (zi lf)), some (.int (zi go))]) (S' := [.int ((zi p) + (zi kk)), .ref c232]) (L2 := [some (.ref m), some (.int (zi b)), some (.int (zi p)), some (.int (zi kk)), some (.int (zi zq55)), some (.int (zi (zq55 / 16))), some (.int (zi (zq55 % 16))), some (.int (zi z192)), some (.int (zi lf)), some (.int (zi go))]) (S2 := [.int (zi (p + kk)), .ref c232]) rfl (by simp only [zi_add, zi_sub, zi_mul, zi_neg, zi_and1, zi_and7, zi_and15, zi_and31, zi_and255]) (by simp only [zi_add, zi_sub, zi_mul, zi_neg, zi_and1, zi_and7, zi_and15, zi_and31, zi_and255]) ?_
                          have hl233 : 12288 ≤ h195.2.2.2.1 c232 ∧ h195.2.2.2.1 c232 ≤ 12288 := gJ.rowl (G := gGG) sh195.1 tc232 rfl
                          refine gs_ald rfl (by decide) sh195.1 tc232 rfl rfl rfl (by decide) (fun _ => rfl) (by omega) (by omega) (fun z234 ez234 az234 bz234 => ?_)
                          by_cases hc235 : (z234 : Int) = 0
                          · refine gy_ifT (pc' := 212) rfl (by decide) (by decide) (by omega) hc235 ?_
                            refine gz_s 1 (pc' := 214) (L' := [some (.ref m), some (.int (zi b)), some (.int (zi p)), some (.int (zi kk)), some (.int (zi zq55)), some (.int (zi (zq55 / 16))), some (.int (zi (zq55 % 16))), some (.int (zi z192)), some (.int (zi lf)), some (.int (zi go))]) (S' := [.int (zi lf)]) rfl ?_
                            by_cases hc236 : (lf : Int) ≤ 0
                            · refine gy_ifT (pc' := 221) rfl (by decide) (by decide) (by omega) hc236 ?_
                              refine gy_s 4 (pc' := 229) (L' := [some (.ref m), some (.int (zi b)), some (.int (zi p)), some (.int (zi kk)), some (.int (zi zq55)), some (.int (zi (zq55 / 16))), some (.int (zi (zq55 % 16))), some (.int (zi z192)), some (.int ((zi lf) + zi (-1))), some (.int (zi 0))]) (S' := [.int (zi 0)]) (L2 := [some (.ref m), some (.int (zi b)), some (.int (zi p)), some (.int (zi kk)), some (.int (zi zq55)), some (.int (zi (zq55 / 16))), some (.int (zi (zq55 % 16))), some (.int (zi z192)), some (.int (zi (lf + (-1)))), some (.int (zi 0))]) (S2 := [.int (zi 0)]) rfl (by simp only [zi_add, zi_sub, zi_mul, zi_neg, zi_and1, zi_and7, zi_and15, zi_and31, zi_and255]) (by simp only [zi_add, zi_sub, zi_mul, zi_neg, zi_and1, zi_and7, zi_and15, zi_and31, zi_and255]) ?_
                              refine gy_ifT (pc' := 238) rfl (by decide) (by decide) (by omega) (by first | (simp [zc]; done) | (simp only [zc]; omega)) ?_
                              refine gz_s 3 (pc' := 164) (L' := [some (.ref m), some (.int (zi b)), some (.int (zi p)), some (.int (zi kk)), some (.int (zi zq55)), some (.int (zi (zq55 / 16))), some (.int (zi (zq55 % 16))), some (.int (zi z192)), some (.int (zi (lf + (-1)))), some (.int (zi 0))]) (S' := []) rfl ?_
                              exact gz_wk (ihlp194 h195 kk (lf + (-1)) 0 av kv uv (by omega) sh195 (by omega) (by omega) (by omega) (by omega) (by omega) (by omega) (by omega) (by omega) (by omega) (by omega) (by omega) lp194k0 lp194k1 lp194k2 lp194k3 lp194k4 lp194k5 lp194k6 lp194k7 lp194k8 lp194k9) (gLw.s (gLw.s (gLw.s (gLw.s (gLw.s (gLw.s (gLw.s (gLw.s (gLw.s (gLw.s gLw.z))))))))))
                            · refine gy_ifF rfl (by decide) (by decide) (by omega) hc236 ?_
                              refine gy_s 5 (pc' := 229) (L' := [some (.ref m), some (.int (zi b)), some (.int (zi p)), some (.int (zi kk)), some (.int (zi zq55)), some (.int (zi (zq55 / 16))), some (.int (zi (zq55 % 16))), some (.int (zi z192)), some (.int ((zi lf) + zi (-1))), some (.int (zi 1))]) (S' := [.int (zi 1)]) (L2 := [some (.ref m), some (.int (zi b)), some (.int (zi p)), some (.int (zi kk)), some (.int (zi zq55)), some (.int (zi (zq55 / 16))), some (.int (zi (zq55 % 16))), some (.int (zi z192)), some (.int (zi (lf + (-1)))), some (.int (zi 1))]) (S2 := [.int (zi 1)]) rfl (by simp only [zi_add, zi_sub, zi_mul, zi_neg, zi_and1, zi_and7, zi_and15, zi_and31, zi_and255]) (by simp only [zi_add, zi_sub, zi_mul, zi_neg, zi_and1, zi_and7, zi_and15, zi_and31, zi_and255]) ?_
                              refine gy_ifF rfl (by decide) (by decide) (by omega) (by first | (simp [zc]; done) | (simp only [zc]; omega)) ?_
                              refine gy_s 6 (pc' := 164) (L' := [some (.ref m), some (.int (zi b)), some (.int (zi p)), some (.int ((zi kk) + (zi 1))), some (.int (zi zq55)), some (.int (zi (zq55 / 16))), some (.int (zi (zq55 % 16))), some (.int (zi z192)), some (.int (zi (lf + (-1)))), some (.int (zi 1))]) (S' := []) (L2 := [some (.ref m), some (.int (zi b)), some (.int (zi p)), some (.int (zi (kk + 1))), some (.int (zi zq55)), some (.int (zi (zq55 / 16))), some (.int (zi (zq55 % 16))), some (.int (zi z192)), some (.int (zi (lf + (-1)))), some (.int (zi 1))]) (S2 := []) rfl (by simp only [zi_add, zi_sub, zi_mul, zi_neg, zi_and1, zi_and7, zi_and15, zi_and31, zi_and255]) (by simp only [zi_add, zi_sub, zi_mul, zi_neg, zi_and1, zi_and7, zi_and15, zi_and31, zi_and255]) ?_
                              exact gz_wk (ihlp194 h195 (kk + 1) (lf + (-1)) 1 av kv uv (by omega) sh195 (by omega) (by omega) (by omega) (by omega) (by omega) (by omega) (by omega) (by omega) (by omega) (by omega) (by omega) lp194k0 lp194k1 lp194k2 lp194k3 lp194k4 lp194k5 lp194k6 lp194k7 lp194k8 lp194k9) (gLw.s (gLw.s (gLw.s (gLw.s (gLw.s (gLw.s (gLw.s (gLw.s (gLw.s (gLw.s gLw.z))))))))))
                          · refine gy_ifF rfl (by decide) (by decide) (by omega) hc235 ?_
                            refine gy_s 4 (pc' := 192) (L' := [some (.ref m), some (.int (zi b)), some (.int (zi p)), some (.int (zi kk)), some (.int (zi zq55)), some (.int (zi (zq55 / 16))), some (.int (zi (zq55 % 16))), some (.int (zi z192)), some (.int (zi lf)), some (.int (zi go))]) (S' := [.int ((zi p) + (zi kk)), .ref m]) (L2 := [some (.ref m), some (.int (zi b)), some (.int (zi p)), some (.int (zi kk)), some (.int (zi zq55)), some (.int (zi (zq55 / 16))), some (.int (zi (zq55 % 16))), some (.int (zi z192)), some (.int (zi lf)), some (.int (zi go))]) (S2 := [.int (zi (p + kk)), .ref m]) rfl (by simp only [zi_add, zi_sub, zi_mul, zi_neg, zi_and1, zi_and7, zi_and15, zi_and31, zi_and255]) (by simp only [zi_add, zi_sub, zi_mul, zi_neg, zi_and1, zi_and7, zi_and15, zi_and31, zi_and255]) ?_
                            refine gz_call rfl (by decide) rfl (by decide) (by decide) (gcal_of rfl rfl rfl (Nat.le_of_ble_eq_true rfl) (gJ.recv (G := gGG) sh195.1 tm rfl rfl)) (mm_grow _ sh195.1 m tm (p + kk) (by omega) av lp194k6 (by omega) kv lp194k7 (by omega) sz lp194k0 (by omega) uv lp194k8 (by omega) lw lp194k1 (by omega) (by omega)) (fun q237 _ wq237 => ?_)
                            obtain ⟨pq237, oq237, hq237⟩ := q237
                            obtain ⟨xq237, fq237_0, fq237_1, fq237_2, gq237, efq237_0, afq237_0, bfq237_0, efq237_1, afq237_1, bfq237_1, efq237_2, afq237_2, bfq237_2, uq237_0, uq237_1, uq237_2⟩ := wq237
                            refine ⟨_, gq237, ?_⟩
                            show gz gPP gGG gcn _ _ 195 [some (.ref m), some (.int (zi b)), some (.int (zi p)), some (.int (zi kk)), some (.int (zi zq55)), some (.int (zi (zq55 / 16))), some (.int (zi (zq55 % 16))), some (.int (zi z192)), some (.int (zi lf)), some (.int (zi go))] [] hq237 _
                            have sq237 := gSs.tr sh195 xq237 (by decide)
                            have s238 := (xq237.2.2.2.2.2 m 3 (by rw [tm]; decide)).trans lp194k0
                            have s239 := (xq237.2.2.2.2.2 m 44 (by rw [tm]; decide)).trans lp194k1
                            have s240 := (xq237.2.2.2.2.2 m 41 (by rw [tm]; decide)).trans lp194k2
                            have s241 := (xq237.2.2.2.2.2 m 42 (by rw [tm]; decide)).trans lp194k3
                            have s242 := (xq237.2.2.2.2.2 m 45 (by rw [tm]; decide)).trans lp194k4
                            have s243 := (xq237.2.2.2.2.2 m 36 (by rw [tm]; decide)).trans lp194k5
                            have s244 := (xq237.2.2.2.2.2 m 37 (by rw [tm]; decide)).trans ec232
                            have pr245 := gEl.fr xq237.2 (by decide) (fun _ => rfl) lp194k9
                            refine gz_s 1 (pc' := 196) (L' := [some (.ref m), some (.int (zi b)), some (.int (zi p)), some (.int (zi kk)), some (.int (zi zq55)), some (.int (zi (zq55 / 16))), some (.int (zi (zq55 % 16))), some (.int (zi z192)), some (.int (zi lf)), some (.int (zi go))]) (S' := [.ref m]) rfl ?_
                            refine gs_gtk rfl (by decide) rfl sq237.1 tm rfl rfl efq237_2 ?_
                            by_cases hc246 : ¬ (fq237_2 : Int) = 0
                            · refine gy_ifT (pc' := 206) rfl (by decide) (by decide) (by omega) hc246 ?_
                              refine gz_s 4 (pc' := 229) (L' := [some (.ref m), some (.int (zi b)), some (.int (zi p)), some (.int (zi kk)), some (.int (zi zq55)), some (.int (zi (zq55 / 16))), some (.int (zi (zq55 % 16))), some (.int (zi z192)), some (.int (zi lf)), some (.int (zi 0))]) (S' := [.int (zi 0)]) rfl ?_
                              refine gy_ifT (pc' := 238) rfl (by decide) (by decide) (by omega) (by first | (simp [zc]; done) | (simp only [zc]; omega)) ?_
                              refine gz_s 3 (pc' := 164) (L' := [some (.ref m), some (.int (zi b)), some (.int (zi p)), some (.int (zi kk)), some (.int (zi zq55)), some (.int (zi (zq55 / 16))), some (.int (zi (zq55 % 16))), some (.int (zi z192)), some (.int (zi lf)), some (.int (zi 0))]) (S' := []) rfl ?_
                              exact gz_wk (ihlp194 hq237 kk lf 0 fq237_0 fq237_1 fq237_2 (by omega) sq237 (by omega) (by omega) (by omega) (by omega) (by omega) (by omega) (by omega) (by omega) (by omega) (by omega) (by omega) s238 s239 s240 s241 s242 s243 efq237_0 efq237_1 efq237_2 pr245) (gLw.s (gLw.s (gLw.s (gLw.s (gLw.s (gLw.s (gLw.s (gLw.s (gLw.s (gLw.s gLw.z))))))))))
                            · refine gy_ifF rfl (by decide) (by decide) (by omega) hc246 ?_
                              refine gz_s 5 (pc' := 229) (L' := [some (.ref m), some (.int (zi b)), some (.int (zi p)), some (.int (zi kk)), some (.int (zi zq55)), some (.int (zi (zq55 / 16))), some (.int (zi (zq55 % 16))), some (.int (zi z192)), some (.int (zi lf)), some (.int (zi 1))]) (S' := [.int (zi 1)]) rfl ?_
                              refine gy_ifF rfl (by decide) (by decide) (by omega) (by first | (simp [zc]; done) | (simp only [zc]; omega)) ?_
                              refine gy_s 6 (pc' := 164) (L' := [some (.ref m), some (.int (zi b)), some (.int (zi p)), some (.int ((zi kk) + (zi 1))), some (.int (zi zq55)), some (.int (zi (zq55 / 16))), some (.int (zi (zq55 % 16))), some (.int (zi z192)), some (.int (zi lf)), some (.int (zi 1))]) (S' := []) (L2 := [some (.ref m), some (.int (zi b)), some (.int (zi p)), some (.int (zi (kk + 1))), some (.int (zi zq55)), some (.int (zi (zq55 / 16))), some (.int (zi (zq55 % 16))), some (.int (zi z192)), some (.int (zi lf)), some (.int (zi 1))]) (S2 := []) rfl (by simp only [zi_add, zi_sub, zi_mul, zi_neg, zi_and1, zi_and7, zi_and15, zi_and31, zi_and255]) (by simp only [zi_add, zi_sub, zi_mul, zi_neg, zi_and1, zi_and7, zi_and15, zi_and31, zi_and255]) ?_
                              exact gz_wk (ihlp194 hq237 (kk + 1) lf 1 fq237_0 fq237_1 fq237_2 (by omega) sq237 (by omega) (by omega) (by omega) (by omega) (by omega) (by omega) (by omega) (by omega) (by omega) (by omega) (by omega) s238 s239 s240 s241 s242 s243 efq237_0 efq237_1 efq237_2 pr245) (gLw.s (gLw.s (gLw.s (gLw.s (gLw.s (gLw.s (gLw.s (gLw.s (gLw.s (gLw.s gLw.z))))))))))
                  exact gz_wk (lp194 _ hq75 k (zq55 / 16) 0 fq75_0 fq75_1 fq75_2 (Nat.lt_succ_self _) sq75 (by omega) (by omega) (by omega) (by omega) (by omega) (by omega) (by omega) (by omega) (by omega) (by omega) (by omega) s76 s77 s78 s79 s80 s81 efq75_0 efq75_1 efq75_2 pr82) (gLw.s (gLw.s (gLw.s (gLw.s (gLw.s (gLw.s (gLw.s (gLw.s (gLw.s (gLw.s gLw.z))))))))))
                · refine gy_ifF rfl (by decide) (by decide) (by omega) hc193 ?_
                  refine gz_s 3 (pc' := 164) (L' := [some (.ref m), some (.int (zi b)), some (.int (zi p)), some (.int (zi k)), some (.int (zi zq55)), some (.int (zi (zq55 / 16))), some (.int (zi (zq55 % 16))), some (.int (zi z192)), some (.int (zi (zq55 / 16))), some (.int (zi 1))]) (S' := []) rfl ?_
                  have lp247 : ∀ (fu : Nat) (h248 : gH) (kk : Int) (lf : Int) (go : Int) (av : Int) (kv : Int) (uv : Int), (2 * (200 - kk) + go).toNat < fu → gSs rT 1027 ty [1045, 1046, 1047, 1048, 20999, 23999] h h248 → (1 ≤ kk ∧ kk ≤ 64) → ((-1) ≤ lf ∧ lf ≤ 15) → (0 ≤ go ∧ go ≤ 1) → (0 ≤ av ∧ av ≤ 2001) → (0 ≤ kv ∧ kv ≤ 7) → (0 ≤ uv ∧ uv ≤ 1) → (kv = 0 ∨ av < sz) → (a0 ≤ av) → (uv = 0 → u0 = 0) → (k ≤ kk) → (go = 1 → 0 ≤ lf) → h248.2.2.2.2 m 3 = .int (zi sz) → h248.2.2.2.2 m 44 = .int (zi lw) → h248.2.2.2.2 m 41 = .int (zi fr) → h248.2.2.2.2 m 42 = .int (zi tt) → h248.2.2.2.2 m 45 = .int (zi rv) → h248.2.2.2.2 m 36 = .ref c51 → h248.2.2.2.2 m 47 = .int (zi av) → h248.2.2.2.2 m 48 = .int (zi kv) → h248.2.2.2.2 m 46 = .int (zi uv) → gEl ty 22 b 4 7 h248 → gz gPP gGG gcn (d + 5) gt161 164 [some (.ref m), some (.int (zi b)), some (.int (zi p)), some (.int (zi kk)), some (.int (zi zq55)), some (.int (zi (zq55 / 16))), some (.int (zi (zq55 % 16))), some (.int (zi z192)), some (.int (zi lf)), some (.int (zi go))] [] h248 (fun q _ => gSs rT 1027 ty [1045, 1046, 1047, 1048, 20999, 23999] h q.2.2 ∧ ∃ a1 k1 u1 : Int, gfin gt161 q.1 q.2.1 = some none ∧ q.2.2.2.2.2.2 m 47 = .int (zi a1) ∧ 0 ≤ a1 ∧ a1 ≤ 2001 ∧ q.2.2.2.2.2.2 m 48 = .int (zi k1) ∧ 0 ≤ k1 ∧ k1 ≤ 7 ∧ q.2.2.2.2.2.2 m 46 = .int (zi u1) ∧ 0 ≤ u1 ∧ u1 ≤ 1 ∧ (k1 = 0 ∨ a1 < sz) ∧ (a0 ≤ a1) ∧ (u1 = 0 → u0 = 0)) := by
                    intro fu
                    induction fu with
                    | zero => intro h248 kk lf go av kv uv hm; exact absurd hm (Nat.not_lt_zero _)
                    | succ fu ihlp247 =>
                      intro h248 kk lf go av kv uv lp247m sh248 lp247f0 lp247f1 lp247f2 lp247f3 lp247f4 lp247f5 lp247f6 lp247f7 lp247f8 lp247f9 lp247f10 lp247k0 lp247k1 lp247k2 lp247k3 lp247k4 lp247k5 lp247k6 lp247k7 lp247k8 lp247k9
                      refine gz_s 1 (pc' := 166) (L' := [some (.ref m), some (.int (zi b)), some (.int (zi p)), some (.int (zi kk)), some (.int (zi zq55)), some (.int (zi (zq55 / 16))), some (.int (zi (zq55 % 16))), some (.int (zi z192)), some (.int (zi lf)), some (.int (zi go))]) (S' := [.int (zi go)]) rfl ?_
                      by_cases hc249 : (go : Int) = 0
                      · refine gy_ifT (pc' := 243) rfl (by decide) (by decide) (by omega) hc249 ?_
                        refine gz_s 3 (pc' := 246) (L' := [some (.ref m), some (.int (zi b)), some (.int (zi p)), some (.int (zi kk)), some (.int (zi zq55)), some (.int (zi (zq55 / 16))), some (.int (zi (zq55 % 16))), some (.int (zi z192)), some (.int (zi lf)), some (.int (zi go))]) (S' := [.ref m, .int (zi kk), .ref m]) rfl ?_
                        refine gs_gtk rfl (by decide) rfl sh248.1 tm rfl rfl lp247k3 ?_
                        by_cases hc250 : (kk : Int) ≤ tt
                        · refine gy_icT (pc' := 257) rfl (by decide) (by decide) (by omega) (by omega) hc250 ?_
                          refine gz_s 2 (pc' := 262) (L' := [some (.ref m), some (.int (zi b)), some (.int (zi p)), some (.int (zi kk)), some (.int (zi zq55)), some (.int (zi (zq55 / 16))), some (.int (zi (zq55 % 16))), some (.int (zi z192)), some (.int (zi lf)), some (.int (zi go))]) (S' := [.int (zi 1), .ref m]) rfl ?_
                          refine gz_call rfl (by decide) rfl (by decide) (by decide) (gcal_of rfl rfl rfl (Nat.le_of_ble_eq_true rfl) (gJ.recv (G := gGG) sh248.1 tm rfl rfl)) (mm_keep _ sh248.1 m tm 1 (by omega) uv lp247k8 (by omega)) (fun q251 _ wq251 => ?_)
                          obtain ⟨pq251, oq251, hq251⟩ := q251
                          obtain ⟨xq251, fq251_0, gq251, efq251_0, afq251_0, bfq251_0, uq251_0⟩ := wq251
                          refine ⟨_, gq251, ?_⟩
                          show gz gPP gGG gcn _ _ 265 [some (.ref m), some (.int (zi b)), some (.int (zi p)), some (.int (zi kk)), some (.int (zi zq55)), some (.int (zi (zq55 / 16))), some (.int (zi (zq55 % 16))), some (.int (zi z192)), some (.int (zi lf)), some (.int (zi go))] [] hq251 _
                          have sq251 := gSs.tr sh248 xq251 (by decide)
                          have s252 := (xq251.2.2.2.2.2 m 3 (by rw [tm]; decide)).trans lp247k0
                          have s253 := (xq251.2.2.2.2.2 m 44 (by rw [tm]; decide)).trans lp247k1
                          have s254 := (xq251.2.2.2.2.2 m 41 (by rw [tm]; decide)).trans lp247k2
                          have s255 := (xq251.2.2.2.2.2 m 42 (by rw [tm]; decide)).trans lp247k3
                          have s256 := (xq251.2.2.2.2.2 m 45 (by rw [tm]; decide)).trans lp247k4
                          have s257 := (xq251.2.2.2.2.2 m 36 (by rw [tm]; decide)).trans lp247k5
                          have s258 := (xq251.2.2.2.2.2 m 47 (by rw [tm]; decide)).trans lp247k6
                          have s259 := (xq251.2.2.2.2.2 m 48 (by rw [tm]; decide)).trans lp247k7
                          have pr260 := gEl.fr xq251.2 (by decide) (fun _ => rfl) lp247k9
                          refine gz_s 1 (pc' := 266) (L' := [some (.ref m), some (.int (zi b)), some (.int (zi p)), some (.int (zi kk)), some (.int (zi zq55)), some (.int (zi (zq55 / 16))), some (.int (zi (zq55 % 16))), some (.int (zi z192)), some (.int (zi lf)), some (.int (zi go))]) (S' := [.ref m]) rfl ?_
                          refine gs_gtk rfl (by decide) rfl sq251.1 tm rfl rfl efq251_0 ?_
                          by_cases hc261 : (fq251_0 : Int) = 0
                          · refine gy_ifT (pc' := 273) rfl (by decide) (by decide) (by omega) hc261 ?_
                            refine gz_s 2 (pc' := 276) (L' := [some (.ref m), some (.int (zi b)), some (.int (zi p)), some (.int (zi kk)), some (.int (zi zq55)), some (.int (zi (zq55 / 16))), some (.int (zi (zq55 % 16))), some (.int (zi z192)), some (.int (zi lf)), some (.int (zi go))]) (S' := [.int (zi 1), .int (zi (zq55 % 16))]) rfl ?_
                            refine gy_icT (pc' := 289) rfl (by decide) (by decide) (by omega) (by omega) (by first | (simp [zc]; done) | (simp only [zc]; omega)) ?_
                            refine gy_s 2 (pc' := 5) (L' := [some (.ref m), some (.int (zi b)), some (.int (zi p)), some (.int ((zi kk) + zi 1)), some (.int (zi zq55)), some (.int (zi (zq55 / 16))), some (.int (zi (zq55 % 16))), some (.int (zi z192)), some (.int (zi lf)), some (.int (zi go))]) (S' := []) (L2 := [some (.ref m), some (.int (zi b)), some (.int (zi p)), some (.int (zi (kk + 1))), some (.int (zi zq55)), some (.int (zi (zq55 / 16))), some (.int (zi (zq55 % 16))), some (.int (zi z192)), some (.int (zi lf)), some (.int (zi go))]) (S2 := []) rfl (by simp only [zi_add, zi_sub, zi_mul, zi_neg, zi_and1, zi_and7, zi_and15, zi_and31, zi_and255]) (by simp only [zi_add, zi_sub, zi_mul, zi_neg, zi_and1, zi_and7, zi_and15, zi_and31, zi_and255]) ?_
                            exact gz_wk (ihlp2 hq251 (kk + 1) av kv fq251_0 rv (by omega) sq251 (by omega) (by omega) (by omega) (by omega) (by omega) (by omega) (by omega) (by omega) s252 s253 s254 s255 s258 s259 efq251_0 s256 pr260) (gLw.s (gLw.s (gLw.s (gLw.s (gLw.n (gLw.n (gLw.n (gLw.n (gLw.n (gLw.n gLw.z))))))))))
                          · refine gy_ifF rfl (by decide) (by decide) (by omega) hc261 ?_
                            exact gz_end (I := .return_) (len := 1) rfl (Or.inl rfl) ⟨sq251, av, kv, fq251_0, rfl, s258, (by omega), (by omega), s259, (by omega), (by omega), efq251_0, (by omega), (by omega), (by omega), (by omega), (by omega)⟩
                        · refine gy_icF rfl (by decide) (by decide) (by omega) (by omega) hc250 ?_
                          refine gz_s 1 (pc' := 254) (L' := [some (.ref m), some (.int (zi b)), some (.int (zi p)), some (.int (zi kk)), some (.int (zi zq55)), some (.int (zi (zq55 / 16))), some (.int (zi (zq55 % 16))), some (.int (zi z192)), some (.int (zi lf)), some (.int (zi go))]) (S' := [.int (zi (zq55 % 16)), .ref m]) rfl ?_
                          refine gy_ifT (pc' := 261) rfl (by decide) (by decide) (by omega) (by first | (simp [zc]; done) | (simp only [zc]; omega)) ?_
                          refine gz_s 1 (pc' := 262) (L' := [some (.ref m), some (.int (zi b)), some (.int (zi p)), some (.int (zi kk)), some (.int (zi zq55)), some (.int (zi (zq55 / 16))), some (.int (zi (zq55 % 16))), some (.int (zi z192)), some (.int (zi lf)), some (.int (zi go))]) (S' := [.int (zi 0), .ref m]) rfl ?_
                          refine gz_call rfl (by decide) rfl (by decide) (by decide) (gcal_of rfl rfl rfl (Nat.le_of_ble_eq_true rfl) (gJ.recv (G := gGG) sh248.1 tm rfl rfl)) (mm_keep _ sh248.1 m tm 0 (by omega) uv lp247k8 (by omega)) (fun q262 _ wq262 => ?_)
                          obtain ⟨pq262, oq262, hq262⟩ := q262
                          obtain ⟨xq262, fq262_0, gq262, efq262_0, afq262_0, bfq262_0, uq262_0⟩ := wq262
                          refine ⟨_, gq262, ?_⟩
                          show gz gPP gGG gcn _ _ 265 [some (.ref m), some (.int (zi b)), some (.int (zi p)), some (.int (zi kk)), some (.int (zi zq55)), some (.int (zi (zq55 / 16))), some (.int (zi (zq55 % 16))), some (.int (zi z192)), some (.int (zi lf)), some (.int (zi go))] [] hq262 _
                          have sq262 := gSs.tr sh248 xq262 (by decide)
                          have s263 := (xq262.2.2.2.2.2 m 3 (by rw [tm]; decide)).trans lp247k0
                          have s264 := (xq262.2.2.2.2.2 m 44 (by rw [tm]; decide)).trans lp247k1
                          have s265 := (xq262.2.2.2.2.2 m 41 (by rw [tm]; decide)).trans lp247k2
                          have s266 := (xq262.2.2.2.2.2 m 42 (by rw [tm]; decide)).trans lp247k3
                          have s267 := (xq262.2.2.2.2.2 m 45 (by rw [tm]; decide)).trans lp247k4
                          have s268 := (xq262.2.2.2.2.2 m 36 (by rw [tm]; decide)).trans lp247k5
                          have s269 := (xq262.2.2.2.2.2 m 47 (by rw [tm]; decide)).trans lp247k6
                          have s270 := (xq262.2.2.2.2.2 m 48 (by rw [tm]; decide)).trans lp247k7
                          have pr271 := gEl.fr xq262.2 (by decide) (fun _ => rfl) lp247k9
                          refine gz_s 1 (pc' := 266) (L' := [some (.ref m), some (.int (zi b)), some (.int (zi p)), some (.int (zi kk)), some (.int (zi zq55)), some (.int (zi (zq55 / 16))), some (.int (zi (zq55 % 16))), some (.int (zi z192)), some (.int (zi lf)), some (.int (zi go))]) (S' := [.ref m]) rfl ?_
                          refine gs_gtk rfl (by decide) rfl sq262.1 tm rfl rfl efq262_0 ?_
                          by_cases hc272 : (fq262_0 : Int) = 0
                          · refine gy_ifT (pc' := 273) rfl (by decide) (by decide) (by omega) hc272 ?_
                            refine gz_s 2 (pc' := 276) (L' := [some (.ref m), some (.int (zi b)), some (.int (zi p)), some (.int (zi kk)), some (.int (zi zq55)), some (.int (zi (zq55 / 16))), some (.int (zi (zq55 % 16))), some (.int (zi z192)), some (.int (zi lf)), some (.int (zi go))]) (S' := [.int (zi 1), .int (zi (zq55 % 16))]) rfl ?_
                            refine gy_icT (pc' := 289) rfl (by decide) (by decide) (by omega) (by omega) (by first | (simp [zc]; done) | (simp only [zc]; omega)) ?_
                            refine gy_s 2 (pc' := 5) (L' := [some (.ref m), some (.int (zi b)), some (.int (zi p)), some (.int ((zi kk) + zi 1)), some (.int (zi zq55)), some (.int (zi (zq55 / 16))), some (.int (zi (zq55 % 16))), some (.int (zi z192)), some (.int (zi lf)), some (.int (zi go))]) (S' := []) (L2 := [some (.ref m), some (.int (zi b)), some (.int (zi p)), some (.int (zi (kk + 1))), some (.int (zi zq55)), some (.int (zi (zq55 / 16))), some (.int (zi (zq55 % 16))), some (.int (zi z192)), some (.int (zi lf)), some (.int (zi go))]) (S2 := []) rfl (by simp only [zi_add, zi_sub, zi_mul, zi_neg, zi_and1, zi_and7, zi_and15, zi_and31, zi_and255]) (by simp only [zi_add, zi_sub, zi_mul, zi_neg, zi_and1, zi_and7, zi_and15, zi_and31, zi_and255]) ?_
                            exact gz_wk (ihlp2 hq262 (kk + 1) av kv fq262_0 rv (by omega) sq262 (by omega) (by omega) (by omega) (by omega) (by omega) (by omega) (by omega) (by omega) s263 s264 s265 s266 s269 s270 efq262_0 s267 pr271) (gLw.s (gLw.s (gLw.s (gLw.s (gLw.n (gLw.n (gLw.n (gLw.n (gLw.n (gLw.n gLw.z))))))))))
                          · refine gy_ifF rfl (by decide) (by decide) (by omega) hc272 ?_
                            exact gz_end (I := .return_) (len := 1) rfl (Or.inl rfl) ⟨sq262, av, kv, fq262_0, rfl, s269, (by omega), (by omega), s270, (by omega), (by omega), efq262_0, (by omega), (by omega), (by omega), (by omega), (by omega)⟩
                      · refine gy_ifF rfl (by decide) (by decide) (by omega) hc249 ?_
                        refine gz_s 2 (pc' := 171) (L' := [some (.ref m), some (.int (zi b)), some (.int (zi p)), some (.int (zi kk)), some (.int (zi zq55)), some (.int (zi (zq55 / 16))), some (.int (zi (zq55 % 16))), some (.int (zi z192)), some (.int (zi lf)), some (.int (zi go))]) (S' := [.ref m, .int (zi kk)]) rfl ?_
                        refine gs_gtk rfl (by decide) rfl sh248.1 tm rfl rfl lp247k3 ?_
                        by_cases hc273 : (tt : Int) < kk
                        · refine gy_icT (pc' := 243) rfl (by decide) (by decide) (by omega) (by omega) hc273 ?_
                          refine gz_s 3 (pc' := 246) (L' := [some (.ref m), some (.int (zi b)), some (.int (zi p)), some (.int (zi kk)), some (.int (zi zq55)), some (.int (zi (zq55 / 16))), some (.int (zi (zq55 % 16))), some (.int (zi z192)), some (.int (zi lf)), some (.int (zi go))]) (S' := [.ref m, .int (zi kk), .ref m]) rfl ?_
                          refine gs_gtk rfl (by decide) rfl sh248.1 tm rfl rfl lp247k3 ?_
                          refine gy_icF rfl (by decide) (by decide) (by omega) (by omega) (by first | (simp [zc]; done) | (simp only [zc]; omega)) ?_
                          refine gz_s 1 (pc' := 254) (L' := [some (.ref m), some (.int (zi b)), some (.int (zi p)), some (.int (zi kk)), some (.int (zi zq55)), some (.int (zi (zq55 / 16))), some (.int (zi (zq55 % 16))), some (.int (zi z192)), some (.int (zi lf)), some (.int (zi go))]) (S' := [.int (zi (zq55 % 16)), .ref m]) rfl ?_
                          refine gy_ifT (pc' := 261) rfl (by decide) (by decide) (by omega) (by first | (simp [zc]; done) | (simp only [zc]; omega)) ?_
                          refine gz_s 1 (pc' := 262) (L' := [some (.ref m), some (.int (zi b)), some (.int (zi p)), some (.int (zi kk)), some (.int (zi zq55)), some (.int (zi (zq55 / 16))), some (.int (zi (zq55 % 16))), some (.int (zi z192)), some (.int (zi lf)), some (.int (zi go))]) (S' := [.int (zi 0), .ref m]) rfl ?_
                          refine gz_call rfl (by decide) rfl (by decide) (by decide) (gcal_of rfl rfl rfl (Nat.le_of_ble_eq_true rfl) (gJ.recv (G := gGG) sh248.1 tm rfl rfl)) (mm_keep _ sh248.1 m tm 0 (by omega) uv lp247k8 (by omega)) (fun q274 _ wq274 => ?_)
                          obtain ⟨pq274, oq274, hq274⟩ := q274
                          obtain ⟨xq274, fq274_0, gq274, efq274_0, afq274_0, bfq274_0, uq274_0⟩ := wq274
                          refine ⟨_, gq274, ?_⟩
                          show gz gPP gGG gcn _ _ 265 [some (.ref m), some (.int (zi b)), some (.int (zi p)), some (.int (zi kk)), some (.int (zi zq55)), some (.int (zi (zq55 / 16))), some (.int (zi (zq55 % 16))), some (.int (zi z192)), some (.int (zi lf)), some (.int (zi go))] [] hq274 _
                          have sq274 := gSs.tr sh248 xq274 (by decide)
                          have s275 := (xq274.2.2.2.2.2 m 3 (by rw [tm]; decide)).trans lp247k0
                          have s276 := (xq274.2.2.2.2.2 m 44 (by rw [tm]; decide)).trans lp247k1
                          have s277 := (xq274.2.2.2.2.2 m 41 (by rw [tm]; decide)).trans lp247k2
                          have s278 := (xq274.2.2.2.2.2 m 42 (by rw [tm]; decide)).trans lp247k3
                          have s279 := (xq274.2.2.2.2.2 m 45 (by rw [tm]; decide)).trans lp247k4
                          have s280 := (xq274.2.2.2.2.2 m 36 (by rw [tm]; decide)).trans lp247k5
                          have s281 := (xq274.2.2.2.2.2 m 47 (by rw [tm]; decide)).trans lp247k6
                          have s282 := (xq274.2.2.2.2.2 m 48 (by rw [tm]; decide)).trans lp247k7
                          have pr283 := gEl.fr xq274.2 (by decide) (fun _ => rfl) lp247k9
                          refine gz_s 1 (pc' := 266) (L' := [some (.ref m), some (.int (zi b)), some (.int (zi p)), some (.int (zi kk)), some (.int (zi zq55)), some (.int (zi (zq55 / 16))), some (.int (zi (zq55 % 16))), some (.int (zi z192)), some (.int (zi lf)), some (.int (zi go))]) (S' := [.ref m]) rfl ?_
                          refine gs_gtk rfl (by decide) rfl sq274.1 tm rfl rfl efq274_0 ?_
                          by_cases hc284 : (fq274_0 : Int) = 0
                          · refine gy_ifT (pc' := 273) rfl (by decide) (by decide) (by omega) hc284 ?_
                            refine gz_s 2 (pc' := 276) (L' := [some (.ref m), some (.int (zi b)), some (.int (zi p)), some (.int (zi kk)), some (.int (zi zq55)), some (.int (zi (zq55 / 16))), some (.int (zi (zq55 % 16))), some (.int (zi z192)), some (.int (zi lf)), some (.int (zi go))]) (S' := [.int (zi 1), .int (zi (zq55 % 16))]) rfl ?_
                            refine gy_icT (pc' := 289) rfl (by decide) (by decide) (by omega) (by omega) (by first | (simp [zc]; done) | (simp only [zc]; omega)) ?_
                            refine gy_s 2 (pc' := 5) (L' := [some (.ref m), some (.int (zi b)), some (.int (zi p)), some (.int ((zi kk) + zi 1)), some (.int (zi zq55)), some (.int (zi (zq55 / 16))), some (.int (zi (zq55 % 16))), some (.int (zi z192)), some (.int (zi lf)), some (.int (zi go))]) (S' := []) (L2 := [some (.ref m), some (.int (zi b)), some (.int (zi p)), some (.int (zi (kk + 1))), some (.int (zi zq55)), some (.int (zi (zq55 / 16))), some (.int (zi (zq55 % 16))), some (.int (zi z192)), some (.int (zi lf)), some (.int (zi go))]) (S2 := []) rfl (by simp only [zi_add, zi_sub, zi_mul, zi_neg, zi_and1, zi_and7, zi_and15, zi_and31, zi_and255]) (by simp only [zi_add, zi_sub, zi_mul, zi_neg, zi_and1, zi_and7, zi_and15, zi_and31, zi_and255]) ?_
                            exact gz_wk (ihlp2 hq274 (kk + 1) av kv fq274_0 rv (by omega) sq274 (by omega) (by omega) (by omega) (by omega) (by omega) (by omega) (by omega) (by omega) s275 s276 s277 s278 s281 s282 efq274_0 s279 pr283) (gLw.s (gLw.s (gLw.s (gLw.s (gLw.n (gLw.n (gLw.n (gLw.n (gLw.n (gLw.n gLw.z))))))))))
                          · refine gy_ifF rfl (by decide) (by decide) (by omega) hc284 ?_
                            exact gz_end (I := .return_) (len := 1) rfl (Or.inl rfl) ⟨sq274, av, kv, fq274_0, rfl, s281, (by omega), (by omega), s282, (by omega), (by omega), efq274_0, (by omega), (by omega), (by omega), (by omega), (by omega)⟩
                        · refine gy_icF rfl (by decide) (by decide) (by omega) (by omega) hc273 ?_
                          refine gz_s 1 (pc' := 178) (L' := [some (.ref m), some (.int (zi b)), some (.int (zi p)), some (.int (zi kk)), some (.int (zi zq55)), some (.int (zi (zq55 / 16))), some (.int (zi (zq55 % 16))), some (.int (zi z192)), some (.int (zi lf)), some (.int (zi go))]) (S' := [.ref m]) rfl ?_
                          refine gs_gtr rfl (by decide) rfl sh248.1 tm rfl rfl rfl (fun c285 ec285 tc285 => ?_)
                          refine gy_s 3 (pc' := 184) (L' := [some (.ref m), some (.int (zi b)), some (.int (zi p)), some (.int (zi kk)), some (.int (zi zq55)), some (.int (zi (zq55 / 16))), some (.int (zi (zq55 % 16))), some (.int (zi z192)), some (.int (zi lf)), some (.int (zi go))]) (S' := [.int ((zi p) + (zi kk)), .ref c285]) (L2 := [some (.ref m), some (.int (zi b)), some (.int (zi p)), some (.int (zi kk)), some (.int (zi zq55)), some (.int (zi (zq55 / 16))), some (.int (zi (zq55 % 16))), some (.int (zi z192)), some (.int (zi lf)), some (.int (zi go))]) (S2 := [.int (zi (p + kk)), .ref c285]) rfl (by simp only [zi_add, zi_sub, zi_mul, zi_neg, zi_and1, zi_and7, zi_and15, zi_and31, zi_and255]) (by simp only [zi_add, zi_sub, zi_mul, zi_neg, zi_and1, zi_and7, zi_and15, zi_and31, zi_and255]) ?_
                          have hl286 : 12288 ≤ h248.2.2.2.1 c285 ∧ h248.2.2.2.1 c285 ≤ 12288 := gJ.rowl (G := gGG) sh248.1 tc285 rfl
                          refine gs_ald rfl (by decide) sh248.1 tc285 rfl rfl rfl (by decide) (fun _ => rfl) (by omega) (by omega) (fun z287 ez287 az287 bz287 => ?_)
                          by_cases hc288 : (z287 : Int) = 0
                          · refine gy_ifT (pc' := 212) rfl (by decide) (by decide) (by omega) hc288 ?_
                            refine gz_s 1 (pc' := 214) (L' := [some (.ref m), some (.int (zi b)), some (.int (zi p)), some (.int (zi kk)), some (.int (zi zq55)), some (.int (zi (zq55 / 16))), some (.int (zi (zq55 % 16))), some (.int (zi z192)), some (.int (zi lf)), some (.int (zi go))]) (S' := [.int (zi lf)]) rfl ?_
                            by_cases hc289 : (lf : Int) ≤ 0
                            · refine gy_ifT (pc' := 221) rfl (by decide) (by decide) (by omega) hc289 ?_
                              refine gy_s 4 (pc' := 229) (L' := [some (.ref m), some (.int (zi b)), some (.int (zi p)), some (.int (zi kk)), some (.int (zi zq55)), some (.int (zi (zq55 / 16))), some (.int (zi (zq55 % 16))), some (.int (zi z192)), some (.int ((zi lf) + zi (-1))), some (.int (zi 0))]) (S' := [.int (zi 0)]) (L2 := [some (.ref m), some (.int (zi b)), some (.int (zi p)), some (.int (zi kk)), some (.int (zi zq55)), some (.int (zi (zq55 / 16))), some (.int (zi (zq55 % 16))), some (.int (zi z192)), some (.int (zi (lf + (-1)))), some (.int (zi 0))]) (S2 := [.int (zi 0)]) rfl (by simp only [zi_add, zi_sub, zi_mul, zi_neg, zi_and1, zi_and7, zi_and15, zi_and31, zi_and255]) (by simp only [zi_add, zi_sub, zi_mul, zi_neg, zi_and1, zi_and7, zi_and15, zi_and31, zi_and255]) ?_
                              refine gy_ifT (pc' := 238) rfl (by decide) (by decide) (by omega) (by first | (simp [zc]; done) | (simp only [zc]; omega)) ?_
                              refine gz_s 3 (pc' := 164) (L' := [some (.ref m), some (.int (zi b)), some (.int (zi p)), some (.int (zi kk)), some (.int (zi zq55)), some (.int (zi (zq55 / 16))), some (.int (zi (zq55 % 16))), some (.int (zi z192)), some (.int (zi (lf + (-1)))), some (.int (zi 0))]) (S' := []) rfl ?_
                              exact gz_wk (ihlp247 h248 kk (lf + (-1)) 0 av kv uv (by omega) sh248 (by omega) (by omega) (by omega) (by omega) (by omega) (by omega) (by omega) (by omega) (by omega) (by omega) (by omega) lp247k0 lp247k1 lp247k2 lp247k3 lp247k4 lp247k5 lp247k6 lp247k7 lp247k8 lp247k9) (gLw.s (gLw.s (gLw.s (gLw.s (gLw.s (gLw.s (gLw.s (gLw.s (gLw.s (gLw.s gLw.z))))))))))
                            · refine gy_ifF rfl (by decide) (by decide) (by omega) hc289 ?_
                              refine gy_s 5 (pc' := 229) (L' := [some (.ref m), some (.int (zi b)), some (.int (zi p)), some (.int (zi kk)), some (.int (zi zq55)), some (.int (zi (zq55 / 16))), some (.int (zi (zq55 % 16))), some (.int (zi z192)), some (.int ((zi lf) + zi (-1))), some (.int (zi 1))]) (S' := [.int (zi 1)]) (L2 := [some (.ref m), some (.int (zi b)), some (.int (zi p)), some (.int (zi kk)), some (.int (zi zq55)), some (.int (zi (zq55 / 16))), some (.int (zi (zq55 % 16))), some (.int (zi z192)), some (.int (zi (lf + (-1)))), some (.int (zi 1))]) (S2 := [.int (zi 1)]) rfl (by simp only [zi_add, zi_sub, zi_mul, zi_neg, zi_and1, zi_and7, zi_and15, zi_and31, zi_and255]) (by simp only [zi_add, zi_sub, zi_mul, zi_neg, zi_and1, zi_and7, zi_and15, zi_and31, zi_and255]) ?_
                              refine gy_ifF rfl (by decide) (by decide) (by omega) (by first | (simp [zc]; done) | (simp only [zc]; omega)) ?_
                              refine gy_s 6 (pc' := 164) (L' := [some (.ref m), some (.int (zi b)), some (.int (zi p)), some (.int ((zi kk) + (zi 1))), some (.int (zi zq55)), some (.int (zi (zq55 / 16))), some (.int (zi (zq55 % 16))), some (.int (zi z192)), some (.int (zi (lf + (-1)))), some (.int (zi 1))]) (S' := []) (L2 := [some (.ref m), some (.int (zi b)), some (.int (zi p)), some (.int (zi (kk + 1))), some (.int (zi zq55)), some (.int (zi (zq55 / 16))), some (.int (zi (zq55 % 16))), some (.int (zi z192)), some (.int (zi (lf + (-1)))), some (.int (zi 1))]) (S2 := []) rfl (by simp only [zi_add, zi_sub, zi_mul, zi_neg, zi_and1, zi_and7, zi_and15, zi_and31, zi_and255]) (by simp only [zi_add, zi_sub, zi_mul, zi_neg, zi_and1, zi_and7, zi_and15, zi_and31, zi_and255]) ?_
                              exact gz_wk (ihlp247 h248 (kk + 1) (lf + (-1)) 1 av kv uv (by omega) sh248 (by omega) (by omega) (by omega) (by omega) (by omega) (by omega) (by omega) (by omega) (by omega) (by omega) (by omega) lp247k0 lp247k1 lp247k2 lp247k3 lp247k4 lp247k5 lp247k6 lp247k7 lp247k8 lp247k9) (gLw.s (gLw.s (gLw.s (gLw.s (gLw.s (gLw.s (gLw.s (gLw.s (gLw.s (gLw.s gLw.z))))))))))
                          · refine gy_ifF rfl (by decide) (by decide) (by omega) hc288 ?_
                            refine gy_s 4 (pc' := 192) (L' := [some (.ref m), some (.int (zi b)), some (.int (zi p)), some (.int (zi kk)), some (.int (zi zq55)), some (.int (zi (zq55 / 16))), some (.int (zi (zq55 % 16))), some (.int (zi z192)), some (.int (zi lf)), some (.int (zi go))]) (S' := [.int ((zi p) + (zi kk)), .ref m]) (L2 := [some (.ref m), some (.int (zi b)), some (.int (zi p)), some (.int (zi kk)), some (.int (zi zq55)), some (.int (zi (zq55 / 16))), some (.int (zi (zq55 % 16))), some (.int (zi z192)), some (.int (zi lf)), some (.int (zi go))]) (S2 := [.int (zi (p + kk)), .ref m]) rfl (by simp only [zi_add, zi_sub, zi_mul, zi_neg, zi_and1, zi_and7, zi_and15, zi_and31, zi_and255]) (by simp only [zi_add, zi_sub, zi_mul, zi_neg, zi_and1, zi_and7, zi_and15, zi_and31, zi_and255]) ?_
                            refine gz_call rfl (by decide) rfl (by decide) (by decide) (gcal_of rfl rfl rfl (Nat.le_of_ble_eq_true rfl) (gJ.recv (G := gGG) sh248.1 tm rfl rfl)) (mm_grow _ sh248.1 m tm (p + kk) (by omega) av lp247k6 (by omega) kv lp247k7 (by omega) sz lp247k0 (by omega) uv lp247k8 (by omega) lw lp247k1 (by omega) (by omega)) (fun q290 _ wq290 => ?_)
                            obtain ⟨pq290, oq290, hq290⟩ := q290
                            obtain ⟨xq290, fq290_0, fq290_1, fq290_2, gq290, efq290_0, afq290_0, bfq290_0, efq290_1, afq290_1, bfq290_1, efq290_2, afq290_2, bfq290_2, uq290_0, uq290_1, uq290_2⟩ := wq290
                            refine ⟨_, gq290, ?_⟩
                            show gz gPP gGG gcn _ _ 195 [some (.ref m), some (.int (zi b)), some (.int (zi p)), some (.int (zi kk)), some (.int (zi zq55)), some (.int (zi (zq55 / 16))), some (.int (zi (zq55 % 16))), some (.int (zi z192)), some (.int (zi lf)), some (.int (zi go))] [] hq290 _
                            have sq290 := gSs.tr sh248 xq290 (by decide)
                            have s291 := (xq290.2.2.2.2.2 m 3 (by rw [tm]; decide)).trans lp247k0
                            have s292 := (xq290.2.2.2.2.2 m 44 (by rw [tm]; decide)).trans lp247k1
                            have s293 := (xq290.2.2.2.2.2 m 41 (by rw [tm]; decide)).trans lp247k2
                            have s294 := (xq290.2.2.2.2.2 m 42 (by rw [tm]; decide)).trans lp247k3
                            have s295 := (xq290.2.2.2.2.2 m 45 (by rw [tm]; decide)).trans lp247k4
                            have s296 := (xq290.2.2.2.2.2 m 36 (by rw [tm]; decide)).trans lp247k5
                            have s297 := (xq290.2.2.2.2.2 m 37 (by rw [tm]; decide)).trans ec285
                            have pr298 := gEl.fr xq290.2 (by decide) (fun _ => rfl) lp247k9
                            refine gz_s 1 (pc' := 196) (L' := [some (.ref m), some (.int (zi b)), some (.int (zi p)), some (.int (zi kk)), some (.int (zi zq55)), some (.int (zi (zq55 / 16))), some (.int (zi (zq55 % 16))), some (.int (zi z192)), some (.int (zi lf)), some (.int (zi go))]) (S' := [.ref m]) rfl ?_
                            refine gs_gtk rfl (by decide) rfl sq290.1 tm rfl rfl efq290_2 ?_
                            by_cases hc299 : ¬ (fq290_2 : Int) = 0
                            · refine gy_ifT (pc' := 206) rfl (by decide) (by decide) (by omega) hc299 ?_
                              refine gz_s 4 (pc' := 229) (L' := [some (.ref m), some (.int (zi b)), some (.int (zi p)), some (.int (zi kk)), some (.int (zi zq55)), some (.int (zi (zq55 / 16))), some (.int (zi (zq55 % 16))), some (.int (zi z192)), some (.int (zi lf)), some (.int (zi 0))]) (S' := [.int (zi 0)]) rfl ?_
                              refine gy_ifT (pc' := 238) rfl (by decide) (by decide) (by omega) (by first | (simp [zc]; done) | (simp only [zc]; omega)) ?_
                              refine gz_s 3 (pc' := 164) (L' := [some (.ref m), some (.int (zi b)), some (.int (zi p)), some (.int (zi kk)), some (.int (zi zq55)), some (.int (zi (zq55 / 16))), some (.int (zi (zq55 % 16))), some (.int (zi z192)), some (.int (zi lf)), some (.int (zi 0))]) (S' := []) rfl ?_
                              exact gz_wk (ihlp247 hq290 kk lf 0 fq290_0 fq290_1 fq290_2 (by omega) sq290 (by omega) (by omega) (by omega) (by omega) (by omega) (by omega) (by omega) (by omega) (by omega) (by omega) (by omega) s291 s292 s293 s294 s295 s296 efq290_0 efq290_1 efq290_2 pr298) (gLw.s (gLw.s (gLw.s (gLw.s (gLw.s (gLw.s (gLw.s (gLw.s (gLw.s (gLw.s gLw.z))))))))))
                            · refine gy_ifF rfl (by decide) (by decide) (by omega) hc299 ?_
                              refine gz_s 5 (pc' := 229) (L' := [some (.ref m), some (.int (zi b)), some (.int (zi p)), some (.int (zi kk)), some (.int (zi zq55)), some (.int (zi (zq55 / 16))), some (.int (zi (zq55 % 16))), some (.int (zi z192)), some (.int (zi lf)), some (.int (zi 1))]) (S' := [.int (zi 1)]) rfl ?_
                              refine gy_ifF rfl (by decide) (by decide) (by omega) (by first | (simp [zc]; done) | (simp only [zc]; omega)) ?_
                              refine gy_s 6 (pc' := 164) (L' := [some (.ref m), some (.int (zi b)), some (.int (zi p)), some (.int ((zi kk) + (zi 1))), some (.int (zi zq55)), some (.int (zi (zq55 / 16))), some (.int (zi (zq55 % 16))), some (.int (zi z192)), some (.int (zi lf)), some (.int (zi 1))]) (S' := []) (L2 := [some (.ref m), some (.int (zi b)), some (.int (zi p)), some (.int (zi (kk + 1))), some (.int (zi zq55)), some (.int (zi (zq55 / 16))), some (.int (zi (zq55 % 16))), some (.int (zi z192)), some (.int (zi lf)), some (.int (zi 1))]) (S2 := []) rfl (by simp only [zi_add, zi_sub, zi_mul, zi_neg, zi_and1, zi_and7, zi_and15, zi_and31, zi_and255]) (by simp only [zi_add, zi_sub, zi_mul, zi_neg, zi_and1, zi_and7, zi_and15, zi_and31, zi_and255]) ?_
                              exact gz_wk (ihlp247 hq290 (kk + 1) lf 1 fq290_0 fq290_1 fq290_2 (by omega) sq290 (by omega) (by omega) (by omega) (by omega) (by omega) (by omega) (by omega) (by omega) (by omega) (by omega) (by omega) s291 s292 s293 s294 s295 s296 efq290_0 efq290_1 efq290_2 pr298) (gLw.s (gLw.s (gLw.s (gLw.s (gLw.s (gLw.s (gLw.s (gLw.s (gLw.s (gLw.s gLw.z))))))))))
                  exact gz_wk (lp247 _ hq75 k (zq55 / 16) 1 fq75_0 fq75_1 fq75_2 (Nat.lt_succ_self _) sq75 (by omega) (by omega) (by omega) (by omega) (by omega) (by omega) (by omega) (by omega) (by omega) (by omega) (by omega) s76 s77 s78 s79 s80 s81 efq75_0 efq75_1 efq75_2 pr82) (gLw.s (gLw.s (gLw.s (gLw.s (gLw.s (gLw.s (gLw.s (gLw.s (gLw.s (gLw.s gLw.z))))))))))
            · refine gy_ifF rfl (by decide) (by decide) (by omega) hc74 ?_
              exact gz_end (I := .return_) (len := 1) rfl (Or.inl rfl) ⟨sq64, fq55_0, fq55_1, fq64_0, rfl, s71, (by omega), (by omega), s72, (by omega), (by omega), efq64_0, (by omega), (by omega), (by omega), (by omega), (by omega)⟩
          · refine gy_icF rfl (by decide) (by decide) (by omega) (by omega) hc63 ?_
            refine gz_s 2 (pc' := 58) (L' := [some (.ref m), some (.int (zi b)), some (.int (zi p)), some (.int (zi k)), some (.int (zi zq55)), some (.int (zi (zq55 / 16))), some (.int (zi (zq55 % 16))), none, none, none]) (S' := [.int (zi 1), .ref m]) rfl ?_
            refine gz_call rfl (by decide) rfl (by decide) (by decide) (gcal_of rfl rfl rfl (Nat.le_of_ble_eq_true rfl) (gJ.recv (G := gGG) sq55.1 tm rfl rfl)) (mm_keep _ sq55.1 m tm 1 (by omega) fq55_2 efq55_2 (by omega)) (fun q300 _ wq300 => ?_)
            obtain ⟨pq300, oq300, hq300⟩ := q300
            obtain ⟨xq300, fq300_0, gq300, efq300_0, afq300_0, bfq300_0, uq300_0⟩ := wq300
            refine ⟨_, gq300, ?_⟩
            show gz gPP gGG gcn _ _ 61 [some (.ref m), some (.int (zi b)), some (.int (zi p)), some (.int (zi k)), some (.int (zi zq55)), some (.int (zi (zq55 / 16))), some (.int (zi (zq55 % 16))), none, none, none] [] hq300 _
            have sq300 := gSs.tr sq55 xq300 (by decide)
            have s301 := (xq300.2.2.2.2.2 m 3 (by rw [tm]; decide)).trans s56
            have s302 := (xq300.2.2.2.2.2 m 44 (by rw [tm]; decide)).trans s57
            have s303 := (xq300.2.2.2.2.2 m 41 (by rw [tm]; decide)).trans s58
            have s304 := (xq300.2.2.2.2.2 m 42 (by rw [tm]; decide)).trans s59
            have s305 := (xq300.2.2.2.2.2 m 45 (by rw [tm]; decide)).trans s60
            have s306 := (xq300.2.2.2.2.2 m 36 (by rw [tm]; decide)).trans s61
            have s307 := (xq300.2.2.2.2.2 m 47 (by rw [tm]; decide)).trans efq55_0
            have s308 := (xq300.2.2.2.2.2 m 48 (by rw [tm]; decide)).trans efq55_1
            have pr309 := gEl.fr xq300.2 (by decide) (fun _ => rfl) pr62
            refine gz_s 1 (pc' := 62) (L' := [some (.ref m), some (.int (zi b)), some (.int (zi p)), some (.int (zi k)), some (.int (zi zq55)), some (.int (zi (zq55 / 16))), some (.int (zi (zq55 % 16))), none, none, none]) (S' := [.ref m]) rfl ?_
            refine gs_gtk rfl (by decide) rfl sq300.1 tm rfl rfl efq300_0 ?_
            by_cases hc310 : (fq300_0 : Int) = 0
            · refine gy_ifT (pc' := 69) rfl (by decide) (by decide) (by omega) hc310 ?_
              refine gz_s 1 (pc' := 71) (L' := [some (.ref m), some (.int (zi b)), some (.int (zi p)), some (.int (zi k)), some (.int (zi zq55)), some (.int (zi (zq55 / 16))), some (.int (zi (zq55 % 16))), none, none, none]) (S' := [.int (zi (zq55 % 16))]) rfl ?_
              by_cases hc311 : ¬ (zq55 % 16 : Int) = 0
              · refine gy_ifT (pc' := 111) rfl (by decide) (by decide) (by omega) hc311 ?_
                refine gz_s 1 (pc' := 113) (L' := [some (.ref m), some (.int (zi b)), some (.int (zi p)), some (.int (zi k)), some (.int (zi zq55)), some (.int (zi (zq55 / 16))), some (.int (zi (zq55 % 16))), none, none, none]) (S' := [.int (zi (zq55 % 16))]) rfl ?_
                refine gy_ifT (pc' := 120) rfl (by decide) (by decide) (by omega) (by first | (simp [zc]; done) | (simp only [zc]; omega)) ?_
                refine gz_s 1 (pc' := 121) (L' := [some (.ref m), some (.int (zi b)), some (.int (zi p)), some (.int (zi k)), some (.int (zi zq55)), some (.int (zi (zq55 / 16))), some (.int (zi (zq55 % 16))), none, none, none]) (S' := [.ref m]) rfl ?_
                refine gz_call rfl (by decide) rfl (by decide) (by decide) (gcal_of rfl rfl rfl (Nat.le_of_ble_eq_true rfl) (gJ.recv (G := gGG) sq300.1 tm rfl rfl)) (mm_bit _ sq300.1 m tm fq55_0 s307 (by omega) fq55_1 s308 (by omega) sz s301 (by omega) fq300_0 efq300_0 (by omega) (by omega)) (fun q312 _ wq312 => ?_)
                obtain ⟨pq312, oq312, hq312⟩ := q312
                obtain ⟨xq312, zq312, fq312_0, fq312_1, fq312_2, gq312, aq312, bq312, efq312_0, afq312_0, bfq312_0, efq312_1, afq312_1, bfq312_1, efq312_2, afq312_2, bfq312_2, uq312_0, uq312_1, uq312_2⟩ := wq312
                refine ⟨_, gq312, ?_⟩
                show gz gPP gGG gcn _ _ 124 [some (.ref m), some (.int (zi b)), some (.int (zi p)), some (.int (zi k)), some (.int (zi zq55)), some (.int (zi (zq55 / 16))), some (.int (zi (zq55 % 16))), none, none, none] [.int (zi zq312)] hq312 _
                have sq312 := gSs.tr sq300 xq312 (by decide)
                have s313 := (xq312.2.2.2.2.2 m 3 (by rw [tm]; decide)).trans s301
                have s314 := (xq312.2.2.2.2.2 m 44 (by rw [tm]; decide)).trans s302
                have s315 := (xq312.2.2.2.2.2 m 41 (by rw [tm]; decide)).trans s303
                have s316 := (xq312.2.2.2.2.2 m 42 (by rw [tm]; decide)).trans s304
                have s317 := (xq312.2.2.2.2.2 m 45 (by rw [tm]; decide)).trans s305
                have s318 := (xq312.2.2.2.2.2 m 36 (by rw [tm]; decide)).trans s306
                have pr319 := gEl.fr xq312.2 (by decide) (fun _ => rfl) pr309
                refine gz_s 1 (pc' := 125) (L' := [some (.ref m), some (.int (zi b)), some (.int (zi p)), some (.int (zi k)), some (.int (zi zq55)), some (.int (zi (zq55 / 16))), some (.int (zi (zq55 % 16))), none, none, none]) (S' := [.int (zi 1), .int (zi zq312)]) rfl ?_
                by_cases hc320 : ¬ (zq312 : Int) = 1
                · refine gy_icT (pc' := 137) rfl (by decide) (by decide) (by omega) (by omega) hc320 ?_
                  refine gz_s 2 (pc' := 139) (L' := [some (.ref m), some (.int (zi b)), some (.int (zi p)), some (.int (zi k)), some (.int (zi zq55)), some (.int (zi (zq55 / 16))), some (.int (zi (zq55 % 16))), none, none, none]) (S' := [.ref m, .int (zi 1)]) rfl ?_
                  refine gs_gtk rfl (by decide) rfl sq312.1 tm rfl rfl s314 ?_
                  refine gy_sh1 rfl (by decide) (by omega) (fun z321 az321 bz321 cz321 => ?_)
                  refine gy_s 5 (pc' := 151) (L' := [some (.ref m), some (.int (zi b)), some (.int (zi p)), some (.int (zi k)), some (.int (zi zq55)), some (.int (zi (zq55 / 16))), some (.int (zi (zq55 % 16))), some (.int (-(zi z321))), some (.int (zi (zq55 / 16))), none]) (S' := [.ref m]) (L2 := [some (.ref m), some (.int (zi b)), some (.int (zi p)), some (.int (zi k)), some (.int (zi zq55)), some (.int (zi (zq55 / 16))), some (.int (zi (zq55 % 16))), some (.int (zi (-z321))), some (.int (zi (zq55 / 16))), none]) (S2 := [.ref m]) rfl (by simp only [zi_add, zi_sub, zi_mul, zi_neg, zi_and1, zi_and7, zi_and15, zi_and31, zi_and255]) (by simp only [zi_add, zi_sub, zi_mul, zi_neg, zi_and1, zi_and7, zi_and15, zi_and31, zi_and255]) ?_
                  refine gs_gtk rfl (by decide) rfl sq312.1 tm rfl rfl efq312_2 ?_
                  by_cases hc322 : ¬ (fq312_2 : Int) = 0
                  · refine gy_ifT (pc' := 161) rfl (by decide) (by decide) (by omega) hc322 ?_
                    refine gz_s 2 (pc' := 164) (L' := [some (.ref m), some (.int (zi b)), some (.int (zi p)), some (.int (zi k)), some (.int (zi zq55)), some (.int (zi (zq55 / 16))), some (.int (zi (zq55 % 16))), some (.int (zi (-z321))), some (.int (zi (zq55 / 16))), some (.int (zi 0))]) (S' := []) rfl ?_
                    have lp323 : ∀ (fu : Nat) (h324 : gH) (kk : Int) (lf : Int) (go : Int) (av : Int) (kv : Int) (uv : Int), (2 * (200 - kk) + go).toNat < fu → gSs rT 1027 ty [1045, 1046, 1047, 1048, 20999, 23999] h h324 → (1 ≤ kk ∧ kk ≤ 64) → ((-1) ≤ lf ∧ lf ≤ 15) → (0 ≤ go ∧ go ≤ 1) → (0 ≤ av ∧ av ≤ 2001) → (0 ≤ kv ∧ kv ≤ 7) → (0 ≤ uv ∧ uv ≤ 1) → (kv = 0 ∨ av < sz) → (a0 ≤ av) → (uv = 0 → u0 = 0) → (k ≤ kk) → (go = 1 → 0 ≤ lf) → h324.2.2.2.2 m 3 = .int (zi sz) → h324.2.2.2.2 m 44 = .int (zi lw) → h324.2.2.2.2 m 41 = .int (zi fr) → h324.2.2.2.2 m 42 = .int (zi tt) → h324.2.2.2.2 m 45 = .int (zi rv) → h324.2.2.2.2 m 36 = .ref c51 → h324.2.2.2.2 m 47 = .int (zi av) → h324.2.2.2.2 m 48 = .int (zi kv) → h324.2.2.2.2 m 46 = .int (zi uv) → gEl ty 22 b 4 7 h324 → gz gPP gGG gcn (d + 5) gt161 164 [some (.ref m), some (.int (zi b)), some (.int (zi p)), some (.int (zi kk)), some (.int (zi zq55)), some (.int (zi (zq55 / 16))), some (.int (zi (zq55 % 16))), some (.int (zi (-z321))), some (.int (zi lf)), some (.int (zi go))] [] h324 (fun q _ => gSs rT 1027 ty [1045, 1046, 1047, 1048, 20999, 23999] h q.2.2 ∧ ∃ a1 k1 u1 : Int, gfin gt161 q.1 q.2.1 = some none ∧ q.2.2.2.2.2.2 m 47 = .int (zi a1) ∧ 0 ≤ a1 ∧ a1 ≤ 2001 ∧ q.2.2.2.2.2.2 m 48 = .int (zi k1) ∧ 0 ≤ k1 ∧ k1 ≤ 7 ∧ q.2.2.2.2.2.2 m 46 = .int (zi u1) ∧ 0 ≤ u1 ∧ u1 ≤ 1 ∧ (k1 = 0 ∨ a1 < sz) ∧ (a0 ≤ a1) ∧ (u1 = 0 → u0 = 0)) := by
                      intro fu
                      induction fu with
                      | zero => intro h324 kk lf go av kv uv hm; exact absurd hm (Nat.not_lt_zero _)
                      | succ fu ihlp323 =>
                        intro h324 kk lf go av kv uv lp323m sh324 lp323f0 lp323f1 lp323f2 lp323f3 lp323f4 lp323f5 lp323f6 lp323f7 lp323f8 lp323f9 lp323f10 lp323k0 lp323k1 lp323k2 lp323k3 lp323k4 lp323k5 lp323k6 lp323k7 lp323k8 lp323k9
                        refine gz_s 1 (pc' := 166) (L' := [some (.ref m), some (.int (zi b)), some (.int (zi p)), some (.int (zi kk)), some (.int (zi zq55)), some (.int (zi (zq55 / 16))), some (.int (zi (zq55 % 16))), some (.int (zi (-z321))), some (.int (zi lf)), some (.int (zi go))]) (S' := [.int (zi go)]) rfl ?_
                        by_cases hc325 : (go : Int) = 0
                        · refine gy_ifT (pc' := 243) rfl (by decide) (by decide) (by omega) hc325 ?_
                          refine gz_s 3 (pc' := 246) (L' := [some (.ref m), some (.int (zi b)), some (.int (zi p)), some (.int (zi kk)), some (.int (zi zq55)), some (.int (zi (zq55 / 16))), some (.int (zi (zq55 % 16))), some (.int (zi (-z321))), some (.int (zi lf)), some (.int (zi go))]) (S' := [.ref m, .int (zi kk), .ref m]) rfl ?_
                          refine gs_gtk rfl (by decide) rfl sh324.1 tm rfl rfl lp323k3 ?_
                          by_cases hc326 : (kk : Int) ≤ tt
                          · refine gy_icT (pc' := 257) rfl (by decide) (by decide) (by omega) (by omega) hc326 ?_
                            refine gz_s 2 (pc' := 262) (L' := [some (.ref m), some (.int (zi b)), some (.int (zi p)), some (.int (zi kk)), some (.int (zi zq55)), some (.int (zi (zq55 / 16))), some (.int (zi (zq55 % 16))), some (.int (zi (-z321))), some (.int (zi lf)), some (.int (zi go))]) (S' := [.int (zi 1), .ref m]) rfl ?_
                            refine gz_call rfl (by decide) rfl (by decide) (by decide) (gcal_of rfl rfl rfl (Nat.le_of_ble_eq_true rfl) (gJ.recv (G := gGG) sh324.1 tm rfl rfl)) (mm_keep _ sh324.1 m tm 1 (by omega) uv lp323k8 (by omega)) (fun q327 _ wq327 => ?_)
                            obtain ⟨pq327, oq327, hq327⟩ := q327
                            obtain ⟨xq327, fq327_0, gq327, efq327_0, afq327_0, bfq327_0, uq327_0⟩ := wq327
                            refine ⟨_, gq327, ?_⟩
                            show gz gPP gGG gcn _ _ 265 [some (.ref m), some (.int (zi b)), some (.int (zi p)), some (.int (zi kk)), some (.int (zi zq55)), some (.int (zi (zq55 / 16))), some (.int (zi (zq55 % 16))), some (.int (zi (-z321))), some (.int (zi lf)), some (.int (zi go))] [] hq327 _
                            have sq327 := gSs.tr sh324 xq327 (by decide)
                            have s328 := (xq327.2.2.2.2.2 m 3 (by rw [tm]; decide)).trans lp323k0
                            have s329 := (xq327.2.2.2.2.2 m 44 (by rw [tm]; decide)).trans lp323k1
                            have s330 := (xq327.2.2.2.2.2 m 41 (by rw [tm]; decide)).trans lp323k2
                            have s331 := (xq327.2.2.2.2.2 m 42 (by rw [tm]; decide)).trans lp323k3
                            have s332 := (xq327.2.2.2.2.2 m 45 (by rw [tm]; decide)).trans lp323k4
                            have s333 := (xq327.2.2.2.2.2 m 36 (by rw [tm]; decide)).trans lp323k5
                            have s334 := (xq327.2.2.2.2.2 m 47 (by rw [tm]; decide)).trans lp323k6
                            have s335 := (xq327.2.2.2.2.2 m 48 (by rw [tm]; decide)).trans lp323k7
                            have pr336 := gEl.fr xq327.2 (by decide) (fun _ => rfl) lp323k9
                            refine gz_s 1 (pc' := 266) (L' := [some (.ref m), some (.int (zi b)), some (.int (zi p)), some (.int (zi kk)), some (.int (zi zq55)), some (.int (zi (zq55 / 16))), some (.int (zi (zq55 % 16))), some (.int (zi (-z321))), some (.int (zi lf)), some (.int (zi go))]) (S' := [.ref m]) rfl ?_
                            refine gs_gtk rfl (by decide) rfl sq327.1 tm rfl rfl efq327_0 ?_
                            by_cases hc337 : (fq327_0 : Int) = 0
                            · refine gy_ifT (pc' := 273) rfl (by decide) (by decide) (by omega) hc337 ?_
                              refine gz_s 2 (pc' := 276) (L' := [some (.ref m), some (.int (zi b)), some (.int (zi p)), some (.int (zi kk)), some (.int (zi zq55)), some (.int (zi (zq55 / 16))), some (.int (zi (zq55 % 16))), some (.int (zi (-z321))), some (.int (zi lf)), some (.int (zi go))]) (S' := [.int (zi 1), .int (zi (zq55 % 16))]) rfl ?_
                              refine gy_icF rfl (by decide) (by decide) (by omega) (by omega) (by first | (simp [zc]; done) | (simp only [zc]; omega)) ?_
                              refine gz_s 1 (pc' := 280) (L' := [some (.ref m), some (.int (zi b)), some (.int (zi p)), some (.int (zi kk)), some (.int (zi zq55)), some (.int (zi (zq55 / 16))), some (.int (zi (zq55 % 16))), some (.int (zi (-z321))), some (.int (zi lf)), some (.int (zi go))]) (S' := [.ref m]) rfl ?_
                              refine gs_gtr rfl (by decide) rfl sq327.1 tm rfl rfl rfl (fun c338 ec338 tc338 => ?_)
                              refine gy_s 4 (pc' := 288) (L' := [some (.ref m), some (.int (zi b)), some (.int (zi p)), some (.int (zi kk)), some (.int (zi zq55)), some (.int (zi (zq55 / 16))), some (.int (zi (zq55 % 16))), some (.int (zi (-z321))), some (.int (zi lf)), some (.int (zi go))]) (S' := [.int (zi (-z321)), .int ((zi p) + (zi kk)), .ref c338]) (L2 := [some (.ref m), some (.int (zi b)), some (.int (zi p)), some (.int (zi kk)), some (.int (zi zq55)), some (.int (zi (zq55 / 16))), some (.int (zi (zq55 % 16))), some (.int (zi (-z321))), some (.int (zi lf)), some (.int (zi go))]) (S2 := [.int (zi (-z321)), .int (zi (p + kk)), .ref c338]) rfl (by simp only [zi_add, zi_sub, zi_mul, zi_neg, zi_and1, zi_and7, zi_and15, zi_and31, zi_and255]) (by simp only [zi_add, zi_sub, zi_mul, zi_neg, zi_and1, zi_and7, zi_and15, zi_and31, zi_and255]) ?_
                              have hl339 : 12288 ≤ hq327.2.2.2.1 c338 ∧ hq327.2.2.2.1 c338 ≤ 12288 := gJ.rowl (G := gGG) sq327.1 tc338 rfl
                              refine gs_ast rfl (by decide) sq327 tc338 rfl rfl rfl (by decide) (fun _ => rfl) (by omega) (by omega) (fun _ => (by decide : (23999 : Nat) ∈ ([1045, 1046, 1047, 1048, 20999, 23999] : List Nat))) (by omega) (by omega) (fun h340 sh340 eh340 fh340 => ?_)
                              have pr341 := gEl.pt fh340 tc338 (by decide) pr336
                              have s342 := (fh340 m 3 (fun q => absurd (((tm).symm.trans (congrArg ty q.1)).trans tc338) (by decide))).trans s328
                              have s343 := (fh340 m 44 (fun q => absurd (((tm).symm.trans (congrArg ty q.1)).trans tc338) (by decide))).trans s329
                              have s344 := (fh340 m 41 (fun q => absurd (((tm).symm.trans (congrArg ty q.1)).trans tc338) (by decide))).trans s330
                              have s345 := (fh340 m 42 (fun q => absurd (((tm).symm.trans (congrArg ty q.1)).trans tc338) (by decide))).trans s331
                              have s346 := (fh340 m 45 (fun q => absurd (((tm).symm.trans (congrArg ty q.1)).trans tc338) (by decide))).trans s332
                              have s347 := (fh340 m 36 (fun q => absurd (((tm).symm.trans (congrArg ty q.1)).trans tc338) (by decide))).trans s333
                              have s348 := (fh340 m 47 (fun q => absurd (((tm).symm.trans (congrArg ty q.1)).trans tc338) (by decide))).trans s334
                              have s349 := (fh340 m 48 (fun q => absurd (((tm).symm.trans (congrArg ty q.1)).trans tc338) (by decide))).trans s335
                              have s350 := (fh340 m 46 (fun q => absurd (((tm).symm.trans (congrArg ty q.1)).trans tc338) (by decide))).trans efq327_0
                              have s351 := (fh340 m 37 (fun q => absurd (((tm).symm.trans (congrArg ty q.1)).trans tc338) (by decide))).trans ec338
                              refine gy_s 2 (pc' := 5) (L' := [some (.ref m), some (.int (zi b)), some (.int (zi p)), some (.int ((zi kk) + zi 1)), some (.int (zi zq55)), some (.int (zi (zq55 / 16))), some (.int (zi (zq55 % 16))), some (.int (zi (-z321))), some (.int (zi lf)), some (.int (zi go))]) (S' := []) (L2 := [some (.ref m), some (.int (zi b)), some (.int (zi p)), some (.int (zi (kk + 1))), some (.int (zi zq55)), some (.int (zi (zq55 / 16))), some (.int (zi (zq55 % 16))), some (.int (zi (-z321))), some (.int (zi lf)), some (.int (zi go))]) (S2 := []) rfl (by simp only [zi_add, zi_sub, zi_mul, zi_neg, zi_and1, zi_and7, zi_and15, zi_and31, zi_and255]) (by simp only [zi_add, zi_sub, zi_mul, zi_neg, zi_and1, zi_and7, zi_and15, zi_and31, zi_and255]) ?_
                              exact gz_wk (ihlp2 h340 (kk + 1) av kv fq327_0 rv (by omega) sh340 (by omega) (by omega) (by omega) (by omega) (by omega) (by omega) (by omega) (by omega) s342 s343 s344 s345 s348 s349 s350 s346 pr341) (gLw.s (gLw.s (gLw.s (gLw.s (gLw.n (gLw.n (gLw.n (gLw.n (gLw.n (gLw.n gLw.z))))))))))
                            · refine gy_ifF rfl (by decide) (by decide) (by omega) hc337 ?_
                              exact gz_end (I := .return_) (len := 1) rfl (Or.inl rfl) ⟨sq327, av, kv, fq327_0, rfl, s334, (by omega), (by omega), s335, (by omega), (by omega), efq327_0, (by omega), (by omega), (by omega), (by omega), (by omega)⟩
                          · refine gy_icF rfl (by decide) (by decide) (by omega) (by omega) hc326 ?_
                            refine gz_s 1 (pc' := 254) (L' := [some (.ref m), some (.int (zi b)), some (.int (zi p)), some (.int (zi kk)), some (.int (zi zq55)), some (.int (zi (zq55 / 16))), some (.int (zi (zq55 % 16))), some (.int (zi (-z321))), some (.int (zi lf)), some (.int (zi go))]) (S' := [.int (zi (zq55 % 16)), .ref m]) rfl ?_
                            refine gy_ifT (pc' := 261) rfl (by decide) (by decide) (by omega) (by first | (simp [zc]; done) | (simp only [zc]; omega)) ?_
                            refine gz_s 1 (pc' := 262) (L' := [some (.ref m), some (.int (zi b)), some (.int (zi p)), some (.int (zi kk)), some (.int (zi zq55)), some (.int (zi (zq55 / 16))), some (.int (zi (zq55 % 16))), some (.int (zi (-z321))), some (.int (zi lf)), some (.int (zi go))]) (S' := [.int (zi 0), .ref m]) rfl ?_
                            refine gz_call rfl (by decide) rfl (by decide) (by decide) (gcal_of rfl rfl rfl (Nat.le_of_ble_eq_true rfl) (gJ.recv (G := gGG) sh324.1 tm rfl rfl)) (mm_keep _ sh324.1 m tm 0 (by omega) uv lp323k8 (by omega)) (fun q352 _ wq352 => ?_)
                            obtain ⟨pq352, oq352, hq352⟩ := q352
                            obtain ⟨xq352, fq352_0, gq352, efq352_0, afq352_0, bfq352_0, uq352_0⟩ := wq352
                            refine ⟨_, gq352, ?_⟩
                            show gz gPP gGG gcn _ _ 265 [some (.ref m), some (.int (zi b)), some (.int (zi p)), some (.int (zi kk)), some (.int (zi zq55)), some (.int (zi (zq55 / 16))), some (.int (zi (zq55 % 16))), some (.int (zi (-z321))), some (.int (zi lf)), some (.int (zi go))] [] hq352 _
                            have sq352 := gSs.tr sh324 xq352 (by decide)
                            have s353 := (xq352.2.2.2.2.2 m 3 (by rw [tm]; decide)).trans lp323k0
                            have s354 := (xq352.2.2.2.2.2 m 44 (by rw [tm]; decide)).trans lp323k1
                            have s355 := (xq352.2.2.2.2.2 m 41 (by rw [tm]; decide)).trans lp323k2
                            have s356 := (xq352.2.2.2.2.2 m 42 (by rw [tm]; decide)).trans lp323k3
                            have s357 := (xq352.2.2.2.2.2 m 45 (by rw [tm]; decide)).trans lp323k4
                            have s358 := (xq352.2.2.2.2.2 m 36 (by rw [tm]; decide)).trans lp323k5
                            have s359 := (xq352.2.2.2.2.2 m 47 (by rw [tm]; decide)).trans lp323k6
                            have s360 := (xq352.2.2.2.2.2 m 48 (by rw [tm]; decide)).trans lp323k7
                            have pr361 := gEl.fr xq352.2 (by decide) (fun _ => rfl) lp323k9
                            refine gz_s 1 (pc' := 266) (L' := [some (.ref m), some (.int (zi b)), some (.int (zi p)), some (.int (zi kk)), some (.int (zi zq55)), some (.int (zi (zq55 / 16))), some (.int (zi (zq55 % 16))), some (.int (zi (-z321))), some (.int (zi lf)), some (.int (zi go))]) (S' := [.ref m]) rfl ?_
                            refine gs_gtk rfl (by decide) rfl sq352.1 tm rfl rfl efq352_0 ?_
                            by_cases hc362 : (fq352_0 : Int) = 0
                            · refine gy_ifT (pc' := 273) rfl (by decide) (by decide) (by omega) hc362 ?_
                              refine gz_s 2 (pc' := 276) (L' := [some (.ref m), some (.int (zi b)), some (.int (zi p)), some (.int (zi kk)), some (.int (zi zq55)), some (.int (zi (zq55 / 16))), some (.int (zi (zq55 % 16))), some (.int (zi (-z321))), some (.int (zi lf)), some (.int (zi go))]) (S' := [.int (zi 1), .int (zi (zq55 % 16))]) rfl ?_
                              refine gy_icF rfl (by decide) (by decide) (by omega) (by omega) (by first | (simp [zc]; done) | (simp only [zc]; omega)) ?_
                              refine gz_s 1 (pc' := 280) (L' := [some (.ref m), some (.int (zi b)), some (.int (zi p)), some (.int (zi kk)), some (.int (zi zq55)), some (.int (zi (zq55 / 16))), some (.int (zi (zq55 % 16))), some (.int (zi (-z321))), some (.int (zi lf)), some (.int (zi go))]) (S' := [.ref m]) rfl ?_
                              refine gs_gtr rfl (by decide) rfl sq352.1 tm rfl rfl rfl (fun c363 ec363 tc363 => ?_)
                              refine gy_s 4 (pc' := 288) (L' := [some (.ref m), some (.int (zi b)), some (.int (zi p)), some (.int (zi kk)), some (.int (zi zq55)), some (.int (zi (zq55 / 16))), some (.int (zi (zq55 % 16))), some (.int (zi (-z321))), some (.int (zi lf)), some (.int (zi go))]) (S' := [.int (zi (-z321)), .int ((zi p) + (zi kk)), .ref c363]) (L2 := [some (.ref m), some (.int (zi b)), some (.int (zi p)), some (.int (zi kk)), some (.int (zi zq55)), some (.int (zi (zq55 / 16))), some (.int (zi (zq55 % 16))), some (.int (zi (-z321))), some (.int (zi lf)), some (.int (zi go))]) (S2 := [.int (zi (-z321)), .int (zi (p + kk)), .ref c363]) rfl (by simp only [zi_add, zi_sub, zi_mul, zi_neg, zi_and1, zi_and7, zi_and15, zi_and31, zi_and255]) (by simp only [zi_add, zi_sub, zi_mul, zi_neg, zi_and1, zi_and7, zi_and15, zi_and31, zi_and255]) ?_
                              have hl364 : 12288 ≤ hq352.2.2.2.1 c363 ∧ hq352.2.2.2.1 c363 ≤ 12288 := gJ.rowl (G := gGG) sq352.1 tc363 rfl
                              refine gs_ast rfl (by decide) sq352 tc363 rfl rfl rfl (by decide) (fun _ => rfl) (by omega) (by omega) (fun _ => (by decide : (23999 : Nat) ∈ ([1045, 1046, 1047, 1048, 20999, 23999] : List Nat))) (by omega) (by omega) (fun h365 sh365 eh365 fh365 => ?_)
                              have pr366 := gEl.pt fh365 tc363 (by decide) pr361
                              have s367 := (fh365 m 3 (fun q => absurd (((tm).symm.trans (congrArg ty q.1)).trans tc363) (by decide))).trans s353
                              have s368 := (fh365 m 44 (fun q => absurd (((tm).symm.trans (congrArg ty q.1)).trans tc363) (by decide))).trans s354
                              have s369 := (fh365 m 41 (fun q => absurd (((tm).symm.trans (congrArg ty q.1)).trans tc363) (by decide))).trans s355
                              have s370 := (fh365 m 42 (fun q => absurd (((tm).symm.trans (congrArg ty q.1)).trans tc363) (by decide))).trans s356
                              have s371 := (fh365 m 45 (fun q => absurd (((tm).symm.trans (congrArg ty q.1)).trans tc363) (by decide))).trans s357
                              have s372 := (fh365 m 36 (fun q => absurd (((tm).symm.trans (congrArg ty q.1)).trans tc363) (by decide))).trans s358
                              have s373 := (fh365 m 47 (fun q => absurd (((tm).symm.trans (congrArg ty q.1)).trans tc363) (by decide))).trans s359
                              have s374 := (fh365 m 48 (fun q => absurd (((tm).symm.trans (congrArg ty q.1)).trans tc363) (by decide))).trans s360
                              have s375 := (fh365 m 46 (fun q => absurd (((tm).symm.trans (congrArg ty q.1)).trans tc363) (by decide))).trans efq352_0
                              have s376 := (fh365 m 37 (fun q => absurd (((tm).symm.trans (congrArg ty q.1)).trans tc363) (by decide))).trans ec363
                              refine gy_s 2 (pc' := 5) (L' := [some (.ref m), some (.int (zi b)), some (.int (zi p)), some (.int ((zi kk) + zi 1)), some (.int (zi zq55)), some (.int (zi (zq55 / 16))), some (.int (zi (zq55 % 16))), some (.int (zi (-z321))), some (.int (zi lf)), some (.int (zi go))]) (S' := []) (L2 := [some (.ref m), some (.int (zi b)), some (.int (zi p)), some (.int (zi (kk + 1))), some (.int (zi zq55)), some (.int (zi (zq55 / 16))), some (.int (zi (zq55 % 16))), some (.int (zi (-z321))), some (.int (zi lf)), some (.int (zi go))]) (S2 := []) rfl (by simp only [zi_add, zi_sub, zi_mul, zi_neg, zi_and1, zi_and7, zi_and15, zi_and31, zi_and255]) (by simp only [zi_add, zi_sub, zi_mul, zi_neg, zi_and1, zi_and7, zi_and15, zi_and31, zi_and255]) ?_
                              exact gz_wk (ihlp2 h365 (kk + 1) av kv fq352_0 rv (by omega) sh365 (by omega) (by omega) (by omega) (by omega) (by omega) (by omega) (by omega) (by omega) s367 s368 s369 s370 s373 s374 s375 s371 pr366) (gLw.s (gLw.s (gLw.s (gLw.s (gLw.n (gLw.n (gLw.n (gLw.n (gLw.n (gLw.n gLw.z))))))))))
                            · refine gy_ifF rfl (by decide) (by decide) (by omega) hc362 ?_
                              exact gz_end (I := .return_) (len := 1) rfl (Or.inl rfl) ⟨sq352, av, kv, fq352_0, rfl, s359, (by omega), (by omega), s360, (by omega), (by omega), efq352_0, (by omega), (by omega), (by omega), (by omega), (by omega)⟩
                        · refine gy_ifF rfl (by decide) (by decide) (by omega) hc325 ?_
                          refine gz_s 2 (pc' := 171) (L' := [some (.ref m), some (.int (zi b)), some (.int (zi p)), some (.int (zi kk)), some (.int (zi zq55)), some (.int (zi (zq55 / 16))), some (.int (zi (zq55 % 16))), some (.int (zi (-z321))), some (.int (zi lf)), some (.int (zi go))]) (S' := [.ref m, .int (zi kk)]) rfl ?_
                          refine gs_gtk rfl (by decide) rfl sh324.1 tm rfl rfl lp323k3 ?_
                          by_cases hc377 : (tt : Int) < kk
                          · refine gy_icT (pc' := 243) rfl (by decide) (by decide) (by omega) (by omega) hc377 ?_
                            refine gz_s 3 (pc' := 246) (L' := [some (.ref m), some (.int (zi b)), some (.int (zi p)), some (.int (zi kk)), some (.int (zi zq55)), some (.int (zi (zq55 / 16))), some (.int (zi (zq55 % 16))), some (.int (zi (-z321))), some (.int (zi lf)), some (.int (zi go))]) (S' := [.ref m, .int (zi kk), .ref m]) rfl ?_
                            refine gs_gtk rfl (by decide) rfl sh324.1 tm rfl rfl lp323k3 ?_
                            refine gy_icF rfl (by decide) (by decide) (by omega) (by omega) (by first | (simp [zc]; done) | (simp only [zc]; omega)) ?_
                            refine gz_s 1 (pc' := 254) (L' := [some (.ref m), some (.int (zi b)), some (.int (zi p)), some (.int (zi kk)), some (.int (zi zq55)), some (.int (zi (zq55 / 16))), some (.int (zi (zq55 % 16))), some (.int (zi (-z321))), some (.int (zi lf)), some (.int (zi go))]) (S' := [.int (zi (zq55 % 16)), .ref m]) rfl ?_
                            refine gy_ifT (pc' := 261) rfl (by decide) (by decide) (by omega) (by first | (simp [zc]; done) | (simp only [zc]; omega)) ?_
                            refine gz_s 1 (pc' := 262) (L' := [some (.ref m), some (.int (zi b)), some (.int (zi p)), some (.int (zi kk)), some (.int (zi zq55)), some (.int (zi (zq55 / 16))), some (.int (zi (zq55 % 16))), some (.int (zi (-z321))), some (.int (zi lf)), some (.int (zi go))]) (S' := [.int (zi 0), .ref m]) rfl ?_
                            refine gz_call rfl (by decide) rfl (by decide) (by decide) (gcal_of rfl rfl rfl (Nat.le_of_ble_eq_true rfl) (gJ.recv (G := gGG) sh324.1 tm rfl rfl)) (mm_keep _ sh324.1 m tm 0 (by omega) uv lp323k8 (by omega)) (fun q378 _ wq378 => ?_)
                            obtain ⟨pq378, oq378, hq378⟩ := q378
                            obtain ⟨xq378, fq378_0, gq378, efq378_0, afq378_0, bfq378_0, uq378_0⟩ := wq378
                            refine ⟨_, gq378, ?_⟩
                            show gz gPP gGG gcn _ _ 265 [some (.ref m), some (.int (zi b)), some (.int (zi p)), some (.int (zi kk)), some (.int (zi zq55)), some (.int (zi (zq55 / 16))), some (.int (zi (zq55 % 16))), some (.int (zi (-z321))), some (.int (zi lf)), some (.int (zi go))] [] hq378 _
                            have sq378 := gSs.tr sh324 xq378 (by decide)
                            have s379 := (xq378.2.2.2.2.2 m 3 (by rw [tm]; decide)).trans lp323k0
                            have s380 := (xq378.2.2.2.2.2 m 44 (by rw [tm]; decide)).trans lp323k1
                            have s381 := (xq378.2.2.2.2.2 m 41 (by rw [tm]; decide)).trans lp323k2
                            have s382 := (xq378.2.2.2.2.2 m 42 (by rw [tm]; decide)).trans lp323k3
                            have s383 := (xq378.2.2.2.2.2 m 45 (by rw [tm]; decide)).trans lp323k4
                            have s384 := (xq378.2.2.2.2.2 m 36 (by rw [tm]; decide)).trans lp323k5
                            have s385 := (xq378.2.2.2.2.2 m 47 (by rw [tm]; decide)).trans lp323k6
                            have s386 := (xq378.2.2.2.2.2 m 48 (by rw [tm]; decide)).trans lp323k7
                            have pr387 := gEl.fr xq378.2 (by decide) (fun _ => rfl) lp323k9
                            refine gz_s 1 (pc' := 266) (L' := [some (.ref m), some (.int (zi b)), some (.int (zi p)), some (.int (zi kk)), some (.int (zi zq55)), some (.int (zi (zq55 / 16))), some (.int (zi (zq55 % 16))), some (.int (zi (-z321))), some (.int (zi lf)), some (.int (zi go))]) (S' := [.ref m]) rfl ?_
                            refine gs_gtk rfl (by decide) rfl sq378.1 tm rfl rfl efq378_0 ?_
                            by_cases hc388 : (fq378_0 : Int) = 0
                            · refine gy_ifT (pc' := 273) rfl (by decide) (by decide) (by omega) hc388 ?_
                              refine gz_s 2 (pc' := 276) (L' := [some (.ref m), some (.int (zi b)), some (.int (zi p)), some (.int (zi kk)), some (.int (zi zq55)), some (.int (zi (zq55 / 16))), some (.int (zi (zq55 % 16))), some (.int (zi (-z321))), some (.int (zi lf)), some (.int (zi go))]) (S' := [.int (zi 1), .int (zi (zq55 % 16))]) rfl ?_
                              refine gy_icF rfl (by decide) (by decide) (by omega) (by omega) (by first | (simp [zc]; done) | (simp only [zc]; omega)) ?_
                              refine gz_s 1 (pc' := 280) (L' := [some (.ref m), some (.int (zi b)), some (.int (zi p)), some (.int (zi kk)), some (.int (zi zq55)), some (.int (zi (zq55 / 16))), some (.int (zi (zq55 % 16))), some (.int (zi (-z321))), some (.int (zi lf)), some (.int (zi go))]) (S' := [.ref m]) rfl ?_
                              refine gs_gtr rfl (by decide) rfl sq378.1 tm rfl rfl rfl (fun c389 ec389 tc389 => ?_)
                              refine gy_s 4 (pc' := 288) (L' := [some (.ref m), some (.int (zi b)), some (.int (zi p)), some (.int (zi kk)), some (.int (zi zq55)), some (.int (zi (zq55 / 16))), some (.int (zi (zq55 % 16))), some (.int (zi (-z321))), some (.int (zi lf)), some (.int (zi go))]) (S' := [.int (zi (-z321)), .int ((zi p) + (zi kk)), .ref c389]) (L2 := [some (.ref m), some (.int (zi b)), some (.int (zi p)), some (.int (zi kk)), some (.int (zi zq55)), some (.int (zi (zq55 / 16))), some (.int (zi (zq55 % 16))), some (.int (zi (-z321))), some (.int (zi lf)), some (.int (zi go))]) (S2 := [.int (zi (-z321)), .int (zi (p + kk)), .ref c389]) rfl (by simp only [zi_add, zi_sub, zi_mul, zi_neg, zi_and1, zi_and7, zi_and15, zi_and31, zi_and255]) (by simp only [zi_add, zi_sub, zi_mul, zi_neg, zi_and1, zi_and7, zi_and15, zi_and31, zi_and255]) ?_
                              have hl390 : 12288 ≤ hq378.2.2.2.1 c389 ∧ hq378.2.2.2.1 c389 ≤ 12288 := gJ.rowl (G := gGG) sq378.1 tc389 rfl
                              refine gs_ast rfl (by decide) sq378 tc389 rfl rfl rfl (by decide) (fun _ => rfl) (by omega) (by omega) (fun _ => (by decide : (23999 : Nat) ∈ ([1045, 1046, 1047, 1048, 20999, 23999] : List Nat))) (by omega) (by omega) (fun h391 sh391 eh391 fh391 => ?_)
                              have pr392 := gEl.pt fh391 tc389 (by decide) pr387
                              have s393 := (fh391 m 3 (fun q => absurd (((tm).symm.trans (congrArg ty q.1)).trans tc389) (by decide))).trans s379
                              have s394 := (fh391 m 44 (fun q => absurd (((tm).symm.trans (congrArg ty q.1)).trans tc389) (by decide))).trans s380
                              have s395 := (fh391 m 41 (fun q => absurd (((tm).symm.trans (congrArg ty q.1)).trans tc389) (by decide))).trans s381
                              have s396 := (fh391 m 42 (fun q => absurd (((tm).symm.trans (congrArg ty q.1)).trans tc389) (by decide))).trans s382
                              have s397 := (fh391 m 45 (fun q => absurd (((tm).symm.trans (congrArg ty q.1)).trans tc389) (by decide))).trans s383
                              have s398 := (fh391 m 36 (fun q => absurd (((tm).symm.trans (congrArg ty q.1)).trans tc389) (by decide))).trans s384
                              have s399 := (fh391 m 47 (fun q => absurd (((tm).symm.trans (congrArg ty q.1)).trans tc389) (by decide))).trans s385
                              have s400 := (fh391 m 48 (fun q => absurd (((tm).symm.trans (congrArg ty q.1)).trans tc389) (by decide))).trans s386
                              have s401 := (fh391 m 46 (fun q => absurd (((tm).symm.trans (congrArg ty q.1)).trans tc389) (by decide))).trans efq378_0
                              have s402 := (fh391 m 37 (fun q => absurd (((tm).symm.trans (congrArg ty q.1)).trans tc389) (by decide))).trans ec389
                              refine gy_s 2 (pc' := 5) (L' := [some (.ref m), some (.int (zi b)), some (.int (zi p)), some (.int ((zi kk) + zi 1)), some (.int (zi zq55)), some (.int (zi (zq55 / 16))), some (.int (zi (zq55 % 16))), some (.int (zi (-z321))), some (.int (zi lf)), some (.int (zi go))]) (S' := []) (L2 := [some (.ref m), some (.int (zi b)), some (.int (zi p)), some (.int (zi (kk + 1))), some (.int (zi zq55)), some (.int (zi (zq55 / 16))), some (.int (zi (zq55 % 16))), some (.int (zi (-z321))), some (.int (zi lf)), some (.int (zi go))]) (S2 := []) rfl (by simp only [zi_add, zi_sub, zi_mul, zi_neg, zi_and1, zi_and7, zi_and15, zi_and31, zi_and255]) (by simp only [zi_add, zi_sub, zi_mul, zi_neg, zi_and1, zi_and7, zi_and15, zi_and31, zi_and255]) ?_
                              exact gz_wk (ihlp2 h391 (kk + 1) av kv fq378_0 rv (by omega) sh391 (by omega) (by omega) (by omega) (by omega) (by omega) (by omega) (by omega) (by omega) s393 s394 s395 s396 s399 s400 s401 s397 pr392) (gLw.s (gLw.s (gLw.s (gLw.s (gLw.n (gLw.n (gLw.n (gLw.n (gLw.n (gLw.n gLw.z))))))))))
                            · refine gy_ifF rfl (by decide) (by decide) (by omega) hc388 ?_
                              exact gz_end (I := .return_) (len := 1) rfl (Or.inl rfl) ⟨sq378, av, kv, fq378_0, rfl, s385, (by omega), (by omega), s386, (by omega), (by omega), efq378_0, (by omega), (by omega), (by omega), (by omega), (by omega)⟩
                          · refine gy_icF rfl (by decide) (by decide) (by omega) (by omega) hc377 ?_
                            refine gz_s 1 (pc' := 178) (L' := [some (.ref m), some (.int (zi b)), some (.int (zi p)), some (.int (zi kk)), some (.int (zi zq55)), some (.int (zi (zq55 / 16))), some (.int (zi (zq55 % 16))), some (.int (zi (-z321))), some (.int (zi lf)), some (.int (zi go))]) (S' := [.ref m]) rfl ?_
                            refine gs_gtr rfl (by decide) rfl sh324.1 tm rfl rfl rfl (fun c403 ec403 tc403 => ?_)
                            refine gy_s 3 (pc' := 184) (L' := [some (.ref m), some (.int (zi b)), some (.int (zi p)), some (.int (zi kk)), some (.int (zi zq55)), some (.int (zi (zq55 / 16))), some (.int (zi (zq55 % 16))), some (.int (zi (-z321))), some (.int (zi lf)), some (.int (zi go))]) (S' := [.int ((zi p) + (zi kk)), .ref c403]) (L2 := [some (.ref m), some (.int (zi b)), some (.int (zi p)), some (.int (zi kk)), some (.int (zi zq55)), some (.int (zi (zq55 / 16))), some (.int (zi (zq55 % 16))), some (.int (zi (-z321))), some (.int (zi lf)), some (.int (zi go))]) (S2 := [.int (zi (p + kk)), .ref c403]) rfl (by simp only [zi_add, zi_sub, zi_mul, zi_neg, zi_and1, zi_and7, zi_and15, zi_and31, zi_and255]) (by simp only [zi_add, zi_sub, zi_mul, zi_neg, zi_and1, zi_and7, zi_and15, zi_and31, zi_and255]) ?_
                            have hl404 : 12288 ≤ h324.2.2.2.1 c403 ∧ h324.2.2.2.1 c403 ≤ 12288 := gJ.rowl (G := gGG) sh324.1 tc403 rfl
                            refine gs_ald rfl (by decide) sh324.1 tc403 rfl rfl rfl (by decide) (fun _ => rfl) (by omega) (by omega) (fun z405 ez405 az405 bz405 => ?_)
                            by_cases hc406 : (z405 : Int) = 0
                            · refine gy_ifT (pc' := 212) rfl (by decide) (by decide) (by omega) hc406 ?_
                              refine gz_s 1 (pc' := 214) (L' := [some (.ref m), some (.int (zi b)), some (.int (zi p)), some (.int (zi kk)), some (.int (zi zq55)), some (.int (zi (zq55 / 16))), some (.int (zi (zq55 % 16))), some (.int (zi (-z321))), some (.int (zi lf)), some (.int (zi go))]) (S' := [.int (zi lf)]) rfl ?_
                              by_cases hc407 : (lf : Int) ≤ 0
                              · refine gy_ifT (pc' := 221) rfl (by decide) (by decide) (by omega) hc407 ?_
                                refine gy_s 4 (pc' := 229) (L' := [some (.ref m), some (.int (zi b)), some (.int (zi p)), some (.int (zi kk)), some (.int (zi zq55)), some (.int (zi (zq55 / 16))), some (.int (zi (zq55 % 16))), some (.int (zi (-z321))), some (.int ((zi lf) + zi (-1))), some (.int (zi 0))]) (S' := [.int (zi 0)]) (L2 := [some (.ref m), some (.int (zi b)), some (.int (zi p)), some (.int (zi kk)), some (.int (zi zq55)), some (.int (zi (zq55 / 16))), some (.int (zi (zq55 % 16))), some (.int (zi (-z321))), some (.int (zi (lf + (-1)))), some (.int (zi 0))]) (S2 := [.int (zi 0)]) rfl (by simp only [zi_add, zi_sub, zi_mul, zi_neg, zi_and1, zi_and7, zi_and15, zi_and31, zi_and255]) (by simp only [zi_add, zi_sub, zi_mul, zi_neg, zi_and1, zi_and7, zi_and15, zi_and31, zi_and255]) ?_
                                refine gy_ifT (pc' := 238) rfl (by decide) (by decide) (by omega) (by first | (simp [zc]; done) | (simp only [zc]; omega)) ?_
                                refine gz_s 3 (pc' := 164) (L' := [some (.ref m), some (.int (zi b)), some (.int (zi p)), some (.int (zi kk)), some (.int (zi zq55)), some (.int (zi (zq55 / 16))), some (.int (zi (zq55 % 16))), some (.int (zi (-z321))), some (.int (zi (lf + (-1)))), some (.int (zi 0))]) (S' := []) rfl ?_
                                exact gz_wk (ihlp323 h324 kk (lf + (-1)) 0 av kv uv (by omega) sh324 (by omega) (by omega) (by omega) (by omega) (by omega) (by omega) (by omega) (by omega) (by omega) (by omega) (by omega) lp323k0 lp323k1 lp323k2 lp323k3 lp323k4 lp323k5 lp323k6 lp323k7 lp323k8 lp323k9) (gLw.s (gLw.s (gLw.s (gLw.s (gLw.s (gLw.s (gLw.s (gLw.s (gLw.s (gLw.s gLw.z))))))))))
                              · refine gy_ifF rfl (by decide) (by decide) (by omega) hc407 ?_
                                refine gy_s 5 (pc' := 229) (L' := [some (.ref m), some (.int (zi b)), some (.int (zi p)), some (.int (zi kk)), some (.int (zi zq55)), some (.int (zi (zq55 / 16))), some (.int (zi (zq55 % 16))), some (.int (zi (-z321))), some (.int ((zi lf) + zi (-1))), some (.int (zi 1))]) (S' := [.int (zi 1)]) (L2 := [some (.ref m), some (.int (zi b)), some (.int (zi p)), some (.int (zi kk)), some (.int (zi zq55)), some (.int (zi (zq55 / 16))), some (.int (zi (zq55 % 16))), some (.int (zi (-z321))), some (.int (zi (lf + (-1)))), some (.int (zi 1))]) (S2 := [.int (zi 1)]) rfl (by simp only [zi_add, zi_sub, zi_mul, zi_neg, zi_and1, zi_and7, zi_and15, zi_and31, zi_and255]) (by simp only [zi_add, zi_sub, zi_mul, zi_neg, zi_and1, zi_and7, zi_and15, zi_and31, zi_and255]) ?_
                                refine gy_ifF rfl (by decide) (by decide) (by omega) (by first | (simp [zc]; done) | (simp only [zc]; omega)) ?_
                                refine gy_s 6 (pc' := 164) (L' := [some (.ref m), some (.int (zi b)), some (.int (zi p)), some (.int ((zi kk) + (zi 1))), some (.int (zi zq55)), some (.int (zi (zq55 / 16))), some (.int (zi (zq55 % 16))), some (.int (zi (-z321))), some (.int (zi (lf + (-1)))), some (.int (zi 1))]) (S' := []) (L2 := [some (.ref m), some (.int (zi b)), some (.int (zi p)), some (.int (zi (kk + 1))), some (.int (zi zq55)), some (.int (zi (zq55 / 16))), some (.int (zi (zq55 % 16))), some (.int (zi (-z321))), some (.int (zi (lf + (-1)))), some (.int (zi 1))]) (S2 := []) rfl (by simp only [zi_add, zi_sub, zi_mul, zi_neg, zi_and1, zi_and7, zi_and15, zi_and31, zi_and255]) (by simp only [zi_add, zi_sub, zi_mul, zi_neg, zi_and1, zi_and7, zi_and15, zi_and31, zi_and255]) ?_
                                exact gz_wk (ihlp323 h324 (kk + 1) (lf + (-1)) 1 av kv uv (by omega) sh324 (by omega) (by omega) (by omega) (by omega) (by omega) (by omega) (by omega) (by omega) (by omega) (by omega) (by omega) lp323k0 lp323k1 lp323k2 lp323k3 lp323k4 lp323k5 lp323k6 lp323k7 lp323k8 lp323k9) (gLw.s (gLw.s (gLw.s (gLw.s (gLw.s (gLw.s (gLw.s (gLw.s (gLw.s (gLw.s gLw.z))))))))))
                            · refine gy_ifF rfl (by decide) (by decide) (by omega) hc406 ?_
                              refine gy_s 4 (pc' := 192) (L' := [some (.ref m), some (.int (zi b)), some (.int (zi p)), some (.int (zi kk)), some (.int (zi zq55)), some (.int (zi (zq55 / 16))), some (.int (zi (zq55 % 16))), some (.int (zi (-z321))), some (.int (zi lf)), some (.int (zi go))]) (S' := [.int ((zi p) + (zi kk)), .ref m]) (L2 := [some (.ref m), some (.int (zi b)), some (.int (zi p)), some (.int (zi kk)), some (.int (zi zq55)), some (.int (zi (zq55 / 16))), some (.int (zi (zq55 % 16))), some (.int (zi (-z321))), some (.int (zi lf)), some (.int (zi go))]) (S2 := [.int (zi (p + kk)), .ref m]) rfl (by simp only [zi_add, zi_sub, zi_mul, zi_neg, zi_and1, zi_and7, zi_and15, zi_and31, zi_and255]) (by simp only [zi_add, zi_sub, zi_mul, zi_neg, zi_and1, zi_and7, zi_and15, zi_and31, zi_and255]) ?_
                              refine gz_call rfl (by decide) rfl (by decide) (by decide) (gcal_of rfl rfl rfl (Nat.le_of_ble_eq_true rfl) (gJ.recv (G := gGG) sh324.1 tm rfl rfl)) (mm_grow _ sh324.1 m tm (p + kk) (by omega) av lp323k6 (by omega) kv lp323k7 (by omega) sz lp323k0 (by omega) uv lp323k8 (by omega) lw lp323k1 (by omega) (by omega)) (fun q408 _ wq408 => ?_)
                              obtain ⟨pq408, oq408, hq408⟩ := q408
                              obtain ⟨xq408, fq408_0, fq408_1, fq408_2, gq408, efq408_0, afq408_0, bfq408_0, efq408_1, afq408_1, bfq408_1, efq408_2, afq408_2, bfq408_2, uq408_0, uq408_1, uq408_2⟩ := wq408
                              refine ⟨_, gq408, ?_⟩
                              show gz gPP gGG gcn _ _ 195 [some (.ref m), some (.int (zi b)), some (.int (zi p)), some (.int (zi kk)), some (.int (zi zq55)), some (.int (zi (zq55 / 16))), some (.int (zi (zq55 % 16))), some (.int (zi (-z321))), some (.int (zi lf)), some (.int (zi go))] [] hq408 _
                              have sq408 := gSs.tr sh324 xq408 (by decide)
                              have s409 := (xq408.2.2.2.2.2 m 3 (by rw [tm]; decide)).trans lp323k0
                              have s410 := (xq408.2.2.2.2.2 m 44 (by rw [tm]; decide)).trans lp323k1
                              have s411 := (xq408.2.2.2.2.2 m 41 (by rw [tm]; decide)).trans lp323k2
                              have s412 := (xq408.2.2.2.2.2 m 42 (by rw [tm]; decide)).trans lp323k3
                              have s413 := (xq408.2.2.2.2.2 m 45 (by rw [tm]; decide)).trans lp323k4
                              have s414 := (xq408.2.2.2.2.2 m 36 (by rw [tm]; decide)).trans lp323k5
                              have s415 := (xq408.2.2.2.2.2 m 37 (by rw [tm]; decide)).trans ec403
                              have pr416 := gEl.fr xq408.2 (by decide) (fun _ => rfl) lp323k9
                              refine gz_s 1 (pc' := 196) (L' := [some (.ref m), some (.int (zi b)), some (.int (zi p)), some (.int (zi kk)), some (.int (zi zq55)), some (.int (zi (zq55 / 16))), some (.int (zi (zq55 % 16))), some (.int (zi (-z321))), some (.int (zi lf)), some (.int (zi go))]) (S' := [.ref m]) rfl ?_
                              refine gs_gtk rfl (by decide) rfl sq408.1 tm rfl rfl efq408_2 ?_
                              by_cases hc417 : ¬ (fq408_2 : Int) = 0
                              · refine gy_ifT (pc' := 206) rfl (by decide) (by decide) (by omega) hc417 ?_
                                refine gz_s 4 (pc' := 229) (L' := [some (.ref m), some (.int (zi b)), some (.int (zi p)), some (.int (zi kk)), some (.int (zi zq55)), some (.int (zi (zq55 / 16))), some (.int (zi (zq55 % 16))), some (.int (zi (-z321))), some (.int (zi lf)), some (.int (zi 0))]) (S' := [.int (zi 0)]) rfl ?_
                                refine gy_ifT (pc' := 238) rfl (by decide) (by decide) (by omega) (by first | (simp [zc]; done) | (simp only [zc]; omega)) ?_
                                refine gz_s 3 (pc' := 164) (L' := [some (.ref m), some (.int (zi b)), some (.int (zi p)), some (.int (zi kk)), some (.int (zi zq55)), some (.int (zi (zq55 / 16))), some (.int (zi (zq55 % 16))), some (.int (zi (-z321))), some (.int (zi lf)), some (.int (zi 0))]) (S' := []) rfl ?_
                                exact gz_wk (ihlp323 hq408 kk lf 0 fq408_0 fq408_1 fq408_2 (by omega) sq408 (by omega) (by omega) (by omega) (by omega) (by omega) (by omega) (by omega) (by omega) (by omega) (by omega) (by omega) s409 s410 s411 s412 s413 s414 efq408_0 efq408_1 efq408_2 pr416) (gLw.s (gLw.s (gLw.s (gLw.s (gLw.s (gLw.s (gLw.s (gLw.s (gLw.s (gLw.s gLw.z))))))))))
                              · refine gy_ifF rfl (by decide) (by decide) (by omega) hc417 ?_
                                refine gz_s 5 (pc' := 229) (L' := [some (.ref m), some (.int (zi b)), some (.int (zi p)), some (.int (zi kk)), some (.int (zi zq55)), some (.int (zi (zq55 / 16))), some (.int (zi (zq55 % 16))), some (.int (zi (-z321))), some (.int (zi lf)), some (.int (zi 1))]) (S' := [.int (zi 1)]) rfl ?_
                                refine gy_ifF rfl (by decide) (by decide) (by omega) (by first | (simp [zc]; done) | (simp only [zc]; omega)) ?_
                                refine gy_s 6 (pc' := 164) (L' := [some (.ref m), some (.int (zi b)), some (.int (zi p)), some (.int ((zi kk) + (zi 1))), some (.int (zi zq55)), some (.int (zi (zq55 / 16))), some (.int (zi (zq55 % 16))), some (.int (zi (-z321))), some (.int (zi lf)), some (.int (zi 1))]) (S' := []) (L2 := [some (.ref m), some (.int (zi b)), some (.int (zi p)), some (.int (zi (kk + 1))), some (.int (zi zq55)), some (.int (zi (zq55 / 16))), some (.int (zi (zq55 % 16))), some (.int (zi (-z321))), some (.int (zi lf)), some (.int (zi 1))]) (S2 := []) rfl (by simp only [zi_add, zi_sub, zi_mul, zi_neg, zi_and1, zi_and7, zi_and15, zi_and31, zi_and255]) (by simp only [zi_add, zi_sub, zi_mul, zi_neg, zi_and1, zi_and7, zi_and15, zi_and31, zi_and255]) ?_
                                exact gz_wk (ihlp323 hq408 (kk + 1) lf 1 fq408_0 fq408_1 fq408_2 (by omega) sq408 (by omega) (by omega) (by omega) (by omega) (by omega) (by omega) (by omega) (by omega) (by omega) (by omega) (by omega) s409 s410 s411 s412 s413 s414 efq408_0 efq408_1 efq408_2 pr416) (gLw.s (gLw.s (gLw.s (gLw.s (gLw.s (gLw.s (gLw.s (gLw.s (gLw.s (gLw.s gLw.z))))))))))
                    exact gz_wk (lp323 _ hq312 k (zq55 / 16) 0 fq312_0 fq312_1 fq312_2 (Nat.lt_succ_self _) sq312 (by omega) (by omega) (by omega) (by omega) (by omega) (by omega) (by omega) (by omega) (by omega) (by omega) (by omega) s313 s314 s315 s316 s317 s318 efq312_0 efq312_1 efq312_2 pr319) (gLw.s (gLw.s (gLw.s (gLw.s (gLw.s (gLw.s (gLw.s (gLw.s (gLw.s (gLw.s gLw.z))))))))))
                  · refine gy_ifF rfl (by decide) (by decide) (by omega) hc322 ?_
                    refine gz_s 3 (pc' := 164) (L' := [some (.ref m), some (.int (zi b)), some (.int (zi p)), some (.int (zi k)), some (.int (zi zq55)), some (.int (zi (zq55 / 16))), some (.int (zi (zq55 % 16))), some (.int (zi (-z321))), some (.int (zi (zq55 / 16))), some (.int (zi 1))]) (S' := []) rfl ?_
                    have lp418 : ∀ (fu : Nat) (h419 : gH) (kk : Int) (lf : Int) (go : Int) (av : Int) (kv : Int) (uv : Int), (2 * (200 - kk) + go).toNat < fu → gSs rT 1027 ty [1045, 1046, 1047, 1048, 20999, 23999] h h419 → (1 ≤ kk ∧ kk ≤ 64) → ((-1) ≤ lf ∧ lf ≤ 15) → (0 ≤ go ∧ go ≤ 1) → (0 ≤ av ∧ av ≤ 2001) → (0 ≤ kv ∧ kv ≤ 7) → (0 ≤ uv ∧ uv ≤ 1) → (kv = 0 ∨ av < sz) → (a0 ≤ av) → (uv = 0 → u0 = 0) → (k ≤ kk) → (go = 1 → 0 ≤ lf) → h419.2.2.2.2 m 3 = .int (zi sz) → h419.2.2.2.2 m 44 = .int (zi lw) → h419.2.2.2.2 m 41 = .int (zi fr) → h419.2.2.2.2 m 42 = .int (zi tt) → h419.2.2.2.2 m 45 = .int (zi rv) → h419.2.2.2.2 m 36 = .ref c51 → h419.2.2.2.2 m 47 = .int (zi av) → h419.2.2.2.2 m 48 = .int (zi kv) → h419.2.2.2.2 m 46 = .int (zi uv) → gEl ty 22 b 4 7 h419 → gz gPP gGG gcn (d + 5) gt161 164 [some (.ref m), some (.int (zi b)), some (.int (zi p)), some (.int (zi kk)), some (.int (zi zq55)), some (.int (zi (zq55 / 16))), some (.int (zi (zq55 % 16))), some (.int (zi (-z321))), some (.int (zi lf)), some (.int (zi go))] [] h419 (fun q _ => gSs rT 1027 ty [1045, 1046, 1047, 1048, 20999, 23999] h q.2.2 ∧ ∃ a1 k1 u1 : Int, gfin gt161 q.1 q.2.1 = some none ∧ q.2.2.2.2.2.2 m 47 = .int (zi a1) ∧ 0 ≤ a1 ∧ a1 ≤ 2001 ∧ q.2.2.2.2.2.2 m 48 = .int (zi k1) ∧ 0 ≤ k1 ∧ k1 ≤ 7 ∧ q.2.2.2.2.2.2 m 46 = .int (zi u1) ∧ 0 ≤ u1 ∧ u1 ≤ 1 ∧ (k1 = 0 ∨ a1 < sz) ∧ (a0 ≤ a1) ∧ (u1 = 0 → u0 = 0)) := by
                      intro fu
                      induction fu with
                      | zero => intro h419 kk lf go av kv uv hm; exact absurd hm (Nat.not_lt_zero _)
                      | succ fu ihlp418 =>
                        intro h419 kk lf go av kv uv lp418m sh419 lp418f0 lp418f1 lp418f2 lp418f3 lp418f4 lp418f5 lp418f6 lp418f7 lp418f8 lp418f9 lp418f10 lp418k0 lp418k1 lp418k2 lp418k3 lp418k4 lp418k5 lp418k6 lp418k7 lp418k8 lp418k9
                        refine gz_s 1 (pc' := 166) (L' := [some (.ref m), some (.int (zi b)), some (.int (zi p)), some (.int (zi kk)), some (.int (zi zq55)), some (.int (zi (zq55 / 16))), some (.int (zi (zq55 % 16))), some (.int (zi (-z321))), some (.int (zi lf)), some (.int (zi go))]) (S' := [.int (zi go)]) rfl ?_
                        by_cases hc420 : (go : Int) = 0
                        · refine gy_ifT (pc' := 243) rfl (by decide) (by decide) (by omega) hc420 ?_
                          refine gz_s 3 (pc' := 246) (L' := [some (.ref m), some (.int (zi b)), some (.int (zi p)), some (.int (zi kk)), some (.int (zi zq55)), some (.int (zi (zq55 / 16))), some (.int (zi (zq55 % 16))), some (.int (zi (-z321))), some (.int (zi lf)), some (.int (zi go))]) (S' := [.ref m, .int (zi kk), .ref m]) rfl ?_
                          refine gs_gtk rfl (by decide) rfl sh419.1 tm rfl rfl lp418k3 ?_
                          by_cases hc421 : (kk : Int) ≤ tt
                          · refine gy_icT (pc' := 257) rfl (by decide) (by decide) (by omega) (by omega) hc421 ?_
                            refine gz_s 2 (pc' := 262) (L' := [some (.ref m), some (.int (zi b)), some (.int (zi p)), some (.int (zi kk)), some (.int (zi zq55)), some (.int (zi (zq55 / 16))), some (.int (zi (zq55 % 16))), some (.int (zi (-z321))), some (.int (zi lf)), some (.int (zi go))]) (S' := [.int (zi 1), .ref m]) rfl ?_
                            refine gz_call rfl (by decide) rfl (by decide) (by decide) (gcal_of rfl rfl rfl (Nat.le_of_ble_eq_true rfl) (gJ.recv (G := gGG) sh419.1 tm rfl rfl)) (mm_keep _ sh419.1 m tm 1 (by omega) uv lp418k8 (by omega)) (fun q422 _ wq422 => ?_)
                            obtain ⟨pq422, oq422, hq422⟩ := q422
                            obtain ⟨xq422, fq422_0, gq422, efq422_0, afq422_0, bfq422_0, uq422_0⟩ := wq422
                            refine ⟨_, gq422, ?_⟩
                            show gz gPP gGG gcn _ _ 265 [some (.ref m), some (.int (zi b)), some (.int (zi p)), some (.int (zi kk)), some (.int (zi zq55)), some (.int (zi (zq55 / 16))), some (.int (zi (zq55 % 16))), some (.int (zi (-z321))), some (.int (zi lf)), some (.int (zi go))] [] hq422 _
                            have sq422 := gSs.tr sh419 xq422 (by decide)
                            have s423 := (xq422.2.2.2.2.2 m 3 (by rw [tm]; decide)).trans lp418k0
                            have s424 := (xq422.2.2.2.2.2 m 44 (by rw [tm]; decide)).trans lp418k1
                            have s425 := (xq422.2.2.2.2.2 m 41 (by rw [tm]; decide)).trans lp418k2
                            have s426 := (xq422.2.2.2.2.2 m 42 (by rw [tm]; decide)).trans lp418k3
                            have s427 := (xq422.2.2.2.2.2 m 45 (by rw [tm]; decide)).trans lp418k4
                            have s428 := (xq422.2.2.2.2.2 m 36 (by rw [tm]; decide)).trans lp418k5
                            have s429 := (xq422.2.2.2.2.2 m 47 (by rw [tm]; decide)).trans lp418k6
                            have s430 := (xq422.2.2.2.2.2 m 48 (by rw [tm]; decide)).trans lp418k7
                            have pr431 := gEl.fr xq422.2 (by decide) (fun _ => rfl) lp418k9
                            refine gz_s 1 (pc' := 266) (L' := [some (.ref m), some (.int (zi b)), some (.int (zi p)), some (.int (zi kk)), some (.int (zi zq55)), some (.int (zi (zq55 / 16))), some (.int (zi (zq55 % 16))), some (.int (zi (-z321))), some (.int (zi lf)), some (.int (zi go))]) (S' := [.ref m]) rfl ?_
                            refine gs_gtk rfl (by decide) rfl sq422.1 tm rfl rfl efq422_0 ?_
                            by_cases hc432 : (fq422_0 : Int) = 0
                            · refine gy_ifT (pc' := 273) rfl (by decide) (by decide) (by omega) hc432 ?_
                              refine gz_s 2 (pc' := 276) (L' := [some (.ref m), some (.int (zi b)), some (.int (zi p)), some (.int (zi kk)), some (.int (zi zq55)), some (.int (zi (zq55 / 16))), some (.int (zi (zq55 % 16))), some (.int (zi (-z321))), some (.int (zi lf)), some (.int (zi go))]) (S' := [.int (zi 1), .int (zi (zq55 % 16))]) rfl ?_
                              refine gy_icF rfl (by decide) (by decide) (by omega) (by omega) (by first | (simp [zc]; done) | (simp only [zc]; omega)) ?_
                              refine gz_s 1 (pc' := 280) (L' := [some (.ref m), some (.int (zi b)), some (.int (zi p)), some (.int (zi kk)), some (.int (zi zq55)), some (.int (zi (zq55 / 16))), some (.int (zi (zq55 % 16))), some (.int (zi (-z321))), some (.int (zi lf)), some (.int (zi go))]) (S' := [.ref m]) rfl ?_
                              refine gs_gtr rfl (by decide) rfl sq422.1 tm rfl rfl rfl (fun c433 ec433 tc433 => ?_)
                              refine gy_s 4 (pc' := 288) (L' := [some (.ref m), some (.int (zi b)), some (.int (zi p)), some (.int (zi kk)), some (.int (zi zq55)), some (.int (zi (zq55 / 16))), some (.int (zi (zq55 % 16))), some (.int (zi (-z321))), some (.int (zi lf)), some (.int (zi go))]) (S' := [.int (zi (-z321)), .int ((zi p) + (zi kk)), .ref c433]) (L2 := [some (.ref m), some (.int (zi b)), some (.int (zi p)), some (.int (zi kk)), some (.int (zi zq55)), some (.int (zi (zq55 / 16))), some (.int (zi (zq55 % 16))), some (.int (zi (-z321))), some (.int (zi lf)), some (.int (zi go))]) (S2 := [.int (zi (-z321)), .int (zi (p + kk)), .ref c433]) rfl (by simp only [zi_add, zi_sub, zi_mul, zi_neg, zi_and1, zi_and7, zi_and15, zi_and31, zi_and255]) (by simp only [zi_add, zi_sub, zi_mul, zi_neg, zi_and1, zi_and7, zi_and15, zi_and31, zi_and255]) ?_
                              have hl434 : 12288 ≤ hq422.2.2.2.1 c433 ∧ hq422.2.2.2.1 c433 ≤ 12288 := gJ.rowl (G := gGG) sq422.1 tc433 rfl
                              refine gs_ast rfl (by decide) sq422 tc433 rfl rfl rfl (by decide) (fun _ => rfl) (by omega) (by omega) (fun _ => (by decide : (23999 : Nat) ∈ ([1045, 1046, 1047, 1048, 20999, 23999] : List Nat))) (by omega) (by omega) (fun h435 sh435 eh435 fh435 => ?_)
                              have pr436 := gEl.pt fh435 tc433 (by decide) pr431
                              have s437 := (fh435 m 3 (fun q => absurd (((tm).symm.trans (congrArg ty q.1)).trans tc433) (by decide))).trans s423
                              have s438 := (fh435 m 44 (fun q => absurd (((tm).symm.trans (congrArg ty q.1)).trans tc433) (by decide))).trans s424
                              have s439 := (fh435 m 41 (fun q => absurd (((tm).symm.trans (congrArg ty q.1)).trans tc433) (by decide))).trans s425
                              have s440 := (fh435 m 42 (fun q => absurd (((tm).symm.trans (congrArg ty q.1)).trans tc433) (by decide))).trans s426
                              have s441 := (fh435 m 45 (fun q => absurd (((tm).symm.trans (congrArg ty q.1)).trans tc433) (by decide))).trans s427
                              have s442 := (fh435 m 36 (fun q => absurd (((tm).symm.trans (congrArg ty q.1)).trans tc433) (by decide))).trans s428
                              have s443 := (fh435 m 47 (fun q => absurd (((tm).symm.trans (congrArg ty q.1)).trans tc433) (by decide))).trans s429
                              have s444 := (fh435 m 48 (fun q => absurd (((tm).symm.trans (congrArg ty q.1)).trans tc433) (by decide))).trans s430
                              have s445 := (fh435 m 46 (fun q => absurd (((tm).symm.trans (congrArg ty q.1)).trans tc433) (by decide))).trans efq422_0
                              have s446 := (fh435 m 37 (fun q => absurd (((tm).symm.trans (congrArg ty q.1)).trans tc433) (by decide))).trans ec433
                              refine gy_s 2 (pc' := 5) (L' := [some (.ref m), some (.int (zi b)), some (.int (zi p)), some (.int ((zi kk) + zi 1)), some (.int (zi zq55)), some (.int (zi (zq55 / 16))), some (.int (zi (zq55 % 16))), some (.int (zi (-z321))), some (.int (zi lf)), some (.int (zi go))]) (S' := []) (L2 := [some (.ref m), some (.int (zi b)), some (.int (zi p)), some (.int (zi (kk + 1))), some (.int (zi zq55)), some (.int (zi (zq55 / 16))), some (.int (zi (zq55 % 16))), some (.int (zi (-z321))), some (.int (zi lf)), some (.int (zi go))]) (S2 := []) rfl (by simp only [zi_add, zi_sub, zi_mul, zi_neg, zi_and1, zi_and7, zi_and15, zi_and31, zi_and255]) (by simp only [zi_add, zi_sub, zi_mul, zi_neg, zi_and1, zi_and7, zi_and15, zi_and31, zi_and255]) ?_
                              exact gz_wk (ihlp2 h435 (kk + 1) av kv fq422_0 rv (by omega) sh435 (by omega) (by omega) (by omega) (by omega) (by omega) (by omega) (by omega) (by omega) s437 s438 s439 s440 s443 s444 s445 s441 pr436) (gLw.s (gLw.s (gLw.s (gLw.s (gLw.n (gLw.n (gLw.n (gLw.n (gLw.n (gLw.n gLw.z))))))))))
                            · refine gy_ifF rfl (by decide) (by decide) (by omega) hc432 ?_
                              exact gz_end (I := .return_) (len := 1) rfl (Or.inl rfl) ⟨sq422, av, kv, fq422_0, rfl, s429, (by omega), (by omega), s430, (by omega), (by omega), efq422_0, (by omega), (by omega), (by omega), (by omega), (by omega)⟩
                          · refine gy_icF rfl (by decide) (by decide) (by omega) (by omega) hc421 ?_
                            refine gz_s 1 (pc' := 254) (L' := [some (.ref m), some (.int (zi b)), some (.int (zi p)), some (.int (zi kk)), some (.int (zi zq55)), some (.int (zi (zq55 / 16))), some (.int (zi (zq55 % 16))), some (.int (zi (-z321))), some (.int (zi lf)), some (.int (zi go))]) (S' := [.int (zi (zq55 % 16)), .ref m]) rfl ?_
                            refine gy_ifT (pc' := 261) rfl (by decide) (by decide) (by omega) (by first | (simp [zc]; done) | (simp only [zc]; omega)) ?_
                            refine gz_s 1 (pc' := 262) (L' := [some (.ref m), some (.int (zi b)), some (.int (zi p)), some (.int (zi kk)), some (.int (zi zq55)), some (.int (zi (zq55 / 16))), some (.int (zi (zq55 % 16))), some (.int (zi (-z321))), some (.int (zi lf)), some (.int (zi go))]) (S' := [.int (zi 0), .ref m]) rfl ?_
                            refine gz_call rfl (by decide) rfl (by decide) (by decide) (gcal_of rfl rfl rfl (Nat.le_of_ble_eq_true rfl) (gJ.recv (G := gGG) sh419.1 tm rfl rfl)) (mm_keep _ sh419.1 m tm 0 (by omega) uv lp418k8 (by omega)) (fun q447 _ wq447 => ?_)
                            obtain ⟨pq447, oq447, hq447⟩ := q447
                            obtain ⟨xq447, fq447_0, gq447, efq447_0, afq447_0, bfq447_0, uq447_0⟩ := wq447
                            refine ⟨_, gq447, ?_⟩
                            show gz gPP gGG gcn _ _ 265 [some (.ref m), some (.int (zi b)), some (.int (zi p)), some (.int (zi kk)), some (.int (zi zq55)), some (.int (zi (zq55 / 16))), some (.int (zi (zq55 % 16))), some (.int (zi (-z321))), some (.int (zi lf)), some (.int (zi go))] [] hq447 _
                            have sq447 := gSs.tr sh419 xq447 (by decide)
                            have s448 := (xq447.2.2.2.2.2 m 3 (by rw [tm]; decide)).trans lp418k0
                            have s449 := (xq447.2.2.2.2.2 m 44 (by rw [tm]; decide)).trans lp418k1
                            have s450 := (xq447.2.2.2.2.2 m 41 (by rw [tm]; decide)).trans lp418k2
                            have s451 := (xq447.2.2.2.2.2 m 42 (by rw [tm]; decide)).trans lp418k3
                            have s452 := (xq447.2.2.2.2.2 m 45 (by rw [tm]; decide)).trans lp418k4
                            have s453 := (xq447.2.2.2.2.2 m 36 (by rw [tm]; decide)).trans lp418k5
                            have s454 := (xq447.2.2.2.2.2 m 47 (by rw [tm]; decide)).trans lp418k6
                            have s455 := (xq447.2.2.2.2.2 m 48 (by rw [tm]; decide)).trans lp418k7
                            have pr456 := gEl.fr xq447.2 (by decide) (fun _ => rfl) lp418k9
                            refine gz_s 1 (pc' := 266) (L' := [some (.ref m), some (.int (zi b)), some (.int (zi p)), some (.int (zi kk)), some (.int (zi zq55)), some (.int (zi (zq55 / 16))), some (.int (zi (zq55 % 16))), some (.int (zi (-z321))), some (.int (zi lf)), some (.int (zi go))]) (S' := [.ref m]) rfl ?_
                            refine gs_gtk rfl (by decide) rfl sq447.1 tm rfl rfl efq447_0 ?_
                            by_cases hc457 : (fq447_0 : Int) = 0
                            · refine gy_ifT (pc' := 273) rfl (by decide) (by decide) (by omega) hc457 ?_
                              refine gz_s 2 (pc' := 276) (L' := [some (.ref m), some (.int (zi b)), some (.int (zi p)), some (.int (zi kk)), some (.int (zi zq55)), some (.int (zi (zq55 / 16))), some (.int (zi (zq55 % 16))), some (.int (zi (-z321))), some (.int (zi lf)), some (.int (zi go))]) (S' := [.int (zi 1), .int (zi (zq55 % 16))]) rfl ?_
                              refine gy_icF rfl (by decide) (by decide) (by omega) (by omega) (by first | (simp [zc]; done) | (simp only [zc]; omega)) ?_
                              refine gz_s 1 (pc' := 280) (L' := [some (.ref m), some (.int (zi b)), some (.int (zi p)), some (.int (zi kk)), some (.int (zi zq55)), some (.int (zi (zq55 / 16))), some (.int (zi (zq55 % 16))), some (.int (zi (-z321))), some (.int (zi lf)), some (.int (zi go))]) (S' := [.ref m]) rfl ?_
                              refine gs_gtr rfl (by decide) rfl sq447.1 tm rfl rfl rfl (fun c458 ec458 tc458 => ?_)
                              refine gy_s 4 (pc' := 288) (L' := [some (.ref m), some (.int (zi b)), some (.int (zi p)), some (.int (zi kk)), some (.int (zi zq55)), some (.int (zi (zq55 / 16))), some (.int (zi (zq55 % 16))), some (.int (zi (-z321))), some (.int (zi lf)), some (.int (zi go))]) (S' := [.int (zi (-z321)), .int ((zi p) + (zi kk)), .ref c458]) (L2 := [some (.ref m), some (.int (zi b)), some (.int (zi p)), some (.int (zi kk)), some (.int (zi zq55)), some (.int (zi (zq55 / 16))), some (.int (zi (zq55 % 16))), some (.int (zi (-z321))), some (.int (zi lf)), some (.int (zi go))]) (S2 := [.int (zi (-z321)), .int (zi (p + kk)), .ref c458]) rfl (by simp only [zi_add, zi_sub, zi_mul, zi_neg, zi_and1, zi_and7, zi_and15, zi_and31, zi_and255]) (by simp only [zi_add, zi_sub, zi_mul, zi_neg, zi_and1, zi_and7, zi_and15, zi_and31, zi_and255]) ?_
                              have hl459 : 12288 ≤ hq447.2.2.2.1 c458 ∧ hq447.2.2.2.1 c458 ≤ 12288 := gJ.rowl (G := gGG) sq447.1 tc458 rfl
                              refine gs_ast rfl (by decide) sq447 tc458 rfl rfl rfl (by decide) (fun _ => rfl) (by omega) (by omega) (fun _ => (by decide : (23999 : Nat) ∈ ([1045, 1046, 1047, 1048, 20999, 23999] : List Nat))) (by omega) (by omega) (fun h460 sh460 eh460 fh460 => ?_)
                              have pr461 := gEl.pt fh460 tc458 (by decide) pr456
                              have s462 := (fh460 m 3 (fun q => absurd (((tm).symm.trans (congrArg ty q.1)).trans tc458) (by decide))).trans s448
                              have s463 := (fh460 m 44 (fun q => absurd (((tm).symm.trans (congrArg ty q.1)).trans tc458) (by decide))).trans s449
                              have s464 := (fh460 m 41 (fun q => absurd (((tm).symm.trans (congrArg ty q.1)).trans tc458) (by decide))).trans s450
                              have s465 := (fh460 m 42 (fun q => absurd (((tm).symm.trans (congrArg ty q.1)).trans tc458) (by decide))).trans s451
                              have s466 := (fh460 m 45 (fun q => absurd (((tm).symm.trans (congrArg ty q.1)).trans tc458) (by decide))).trans s452
                              have s467 := (fh460 m 36 (fun q => absurd (((tm).symm.trans (congrArg ty q.1)).trans tc458) (by decide))).trans s453
                              have s468 := (fh460 m 47 (fun q => absurd (((tm).symm.trans (congrArg ty q.1)).trans tc458) (by decide))).trans s454
                              have s469 := (fh460 m 48 (fun q => absurd (((tm).symm.trans (congrArg ty q.1)).trans tc458) (by decide))).trans s455
                              have s470 := (fh460 m 46 (fun q => absurd (((tm).symm.trans (congrArg ty q.1)).trans tc458) (by decide))).trans efq447_0
                              have s471 := (fh460 m 37 (fun q => absurd (((tm).symm.trans (congrArg ty q.1)).trans tc458) (by decide))).trans ec458
                              refine gy_s 2 (pc' := 5) (L' := [some (.ref m), some (.int (zi b)), some (.int (zi p)), some (.int ((zi kk) + zi 1)), some (.int (zi zq55)), some (.int (zi (zq55 / 16))), some (.int (zi (zq55 % 16))), some (.int (zi (-z321))), some (.int (zi lf)), some (.int (zi go))]) (S' := []) (L2 := [some (.ref m), some (.int (zi b)), some (.int (zi p)), some (.int (zi (kk + 1))), some (.int (zi zq55)), some (.int (zi (zq55 / 16))), some (.int (zi (zq55 % 16))), some (.int (zi (-z321))), some (.int (zi lf)), some (.int (zi go))]) (S2 := []) rfl (by simp only [zi_add, zi_sub, zi_mul, zi_neg, zi_and1, zi_and7, zi_and15, zi_and31, zi_and255]) (by simp only [zi_add, zi_sub, zi_mul, zi_neg, zi_and1, zi_and7, zi_and15, zi_and31, zi_and255]) ?_
                              exact gz_wk (ihlp2 h460 (kk + 1) av kv fq447_0 rv (by omega) sh460 (by omega) (by omega) (by omega) (by omega) (by omega) (by omega) (by omega) (by omega) s462 s463 s464 s465 s468 s469 s470 s466 pr461) (gLw.s (gLw.s (gLw.s (gLw.s (gLw.n (gLw.n (gLw.n (gLw.n (gLw.n (gLw.n gLw.z))))))))))
                            · refine gy_ifF rfl (by decide) (by decide) (by omega) hc457 ?_
                              exact gz_end (I := .return_) (len := 1) rfl (Or.inl rfl) ⟨sq447, av, kv, fq447_0, rfl, s454, (by omega), (by omega), s455, (by omega), (by omega), efq447_0, (by omega), (by omega), (by omega), (by omega), (by omega)⟩
                        · refine gy_ifF rfl (by decide) (by decide) (by omega) hc420 ?_
                          refine gz_s 2 (pc' := 171) (L' := [some (.ref m), some (.int (zi b)), some (.int (zi p)), some (.int (zi kk)), some (.int (zi zq55)), some (.int (zi (zq55 / 16))), some (.int (zi (zq55 % 16))), some (.int (zi (-z321))), some (.int (zi lf)), some (.int (zi go))]) (S' := [.ref m, .int (zi kk)]) rfl ?_
                          refine gs_gtk rfl (by decide) rfl sh419.1 tm rfl rfl lp418k3 ?_
                          by_cases hc472 : (tt : Int) < kk
                          · refine gy_icT (pc' := 243) rfl (by decide) (by decide) (by omega) (by omega) hc472 ?_
                            refine gz_s 3 (pc' := 246) (L' := [some (.ref m), some (.int (zi b)), some (.int (zi p)), some (.int (zi kk)), some (.int (zi zq55)), some (.int (zi (zq55 / 16))), some (.int (zi (zq55 % 16))), some (.int (zi (-z321))), some (.int (zi lf)), some (.int (zi go))]) (S' := [.ref m, .int (zi kk), .ref m]) rfl ?_
                            refine gs_gtk rfl (by decide) rfl sh419.1 tm rfl rfl lp418k3 ?_
                            refine gy_icF rfl (by decide) (by decide) (by omega) (by omega) (by first | (simp [zc]; done) | (simp only [zc]; omega)) ?_
                            refine gz_s 1 (pc' := 254) (L' := [some (.ref m), some (.int (zi b)), some (.int (zi p)), some (.int (zi kk)), some (.int (zi zq55)), some (.int (zi (zq55 / 16))), some (.int (zi (zq55 % 16))), some (.int (zi (-z321))), some (.int (zi lf)), some (.int (zi go))]) (S' := [.int (zi (zq55 % 16)), .ref m]) rfl ?_
                            refine gy_ifT (pc' := 261) rfl (by decide) (by decide) (by omega) (by first | (simp [zc]; done) | (simp only [zc]; omega)) ?_
                            refine gz_s 1 (pc' := 262) (L' := [some (.ref m), some (.int (zi b)), some (.int (zi p)), some (.int (zi kk)), some (.int (zi zq55)), some (.int (zi (zq55 / 16))), some (.int (zi (zq55 % 16))), some (.int (zi (-z321))), some (.int (zi lf)), some (.int (zi go))]) (S' := [.int (zi 0), .ref m]) rfl ?_
                            refine gz_call rfl (by decide) rfl (by decide) (by decide) (gcal_of rfl rfl rfl (Nat.le_of_ble_eq_true rfl) (gJ.recv (G := gGG) sh419.1 tm rfl rfl)) (mm_keep _ sh419.1 m tm 0 (by omega) uv lp418k8 (by omega)) (fun q473 _ wq473 => ?_)
                            obtain ⟨pq473, oq473, hq473⟩ := q473
                            obtain ⟨xq473, fq473_0, gq473, efq473_0, afq473_0, bfq473_0, uq473_0⟩ := wq473
                            refine ⟨_, gq473, ?_⟩
                            show gz gPP gGG gcn _ _ 265 [some (.ref m), some (.int (zi b)), some (.int (zi p)), some (.int (zi kk)), some (.int (zi zq55)), some (.int (zi (zq55 / 16))), some (.int (zi (zq55 % 16))), some (.int (zi (-z321))), some (.int (zi lf)), some (.int (zi go))] [] hq473 _
                            have sq473 := gSs.tr sh419 xq473 (by decide)
                            have s474 := (xq473.2.2.2.2.2 m 3 (by rw [tm]; decide)).trans lp418k0
                            have s475 := (xq473.2.2.2.2.2 m 44 (by rw [tm]; decide)).trans lp418k1
                            have s476 := (xq473.2.2.2.2.2 m 41 (by rw [tm]; decide)).trans lp418k2
                            have s477 := (xq473.2.2.2.2.2 m 42 (by rw [tm]; decide)).trans lp418k3
                            have s478 := (xq473.2.2.2.2.2 m 45 (by rw [tm]; decide)).trans lp418k4
                            have s479 := (xq473.2.2.2.2.2 m 36 (by rw [tm]; decide)).trans lp418k5
                            have s480 := (xq473.2.2.2.2.2 m 47 (by rw [tm]; decide)).trans lp418k6
                            have s481 := (xq473.2.2.2.2.2 m 48 (by rw [tm]; decide)).trans lp418k7
                            have pr482 := gEl.fr xq473.2 (by decide) (fun _ => rfl) lp418k9
                            refine gz_s 1 (pc' := 266) (L' := [some (.ref m), some (.int (zi b)), some (.int (zi p)), some (.int (zi kk)), some (.int (zi zq55)), some (.int (zi (zq55 / 16))), some (.int (zi (zq55 % 16))), some (.int (zi (-z321))), some (.int (zi lf)), some (.int (zi go))]) (S' := [.ref m]) rfl ?_
                            refine gs_gtk rfl (by decide) rfl sq473.1 tm rfl rfl efq473_0 ?_
                            by_cases hc483 : (fq473_0 : Int) = 0
                            · refine gy_ifT (pc' := 273) rfl (by decide) (by decide) (by omega) hc483 ?_
                              refine gz_s 2 (pc' := 276) (L' := [some (.ref m), some (.int (zi b)), some (.int (zi p)), some (.int (zi kk)), some (.int (zi zq55)), some (.int (zi (zq55 / 16))), some (.int (zi (zq55 % 16))), some (.int (zi (-z321))), some (.int (zi lf)), some (.int (zi go))]) (S' := [.int (zi 1), .int (zi (zq55 % 16))]) rfl ?_
                              refine gy_icF rfl (by decide) (by decide) (by omega) (by omega) (by first | (simp [zc]; done) | (simp only [zc]; omega)) ?_
                              refine gz_s 1 (pc' := 280) (L' := [some (.ref m), some (.int (zi b)), some (.int (zi p)), some (.int (zi kk)), some (.int (zi zq55)), some (.int (zi (zq55 / 16))), some (.int (zi (zq55 % 16))), some (.int (zi (-z321))), some (.int (zi lf)), some (.int (zi go))]) (S' := [.ref m]) rfl ?_
                              refine gs_gtr rfl (by decide) rfl sq473.1 tm rfl rfl rfl (fun c484 ec484 tc484 => ?_)
                              refine gy_s 4 (pc' := 288) (L' := [some (.ref m), some (.int (zi b)), some (.int (zi p)), some (.int (zi kk)), some (.int (zi zq55)), some (.int (zi (zq55 / 16))), some (.int (zi (zq55 % 16))), some (.int (zi (-z321))), some (.int (zi lf)), some (.int (zi go))]) (S' := [.int (zi (-z321)), .int ((zi p) + (zi kk)), .ref c484]) (L2 := [some (.ref m), some (.int (zi b)), some (.int (zi p)), some (.int (zi kk)), some (.int (zi zq55)), some (.int (zi (zq55 / 16))), some (.int (zi (zq55 % 16))), some (.int (zi (-z321))), some (.int (zi lf)), some (.int (zi go))]) (S2 := [.int (zi (-z321)), .int (zi (p + kk)), .ref c484]) rfl (by simp only [zi_add, zi_sub, zi_mul, zi_neg, zi_and1, zi_and7, zi_and15, zi_and31, zi_and255]) (by simp only [zi_add, zi_sub, zi_mul, zi_neg, zi_and1, zi_and7, zi_and15, zi_and31, zi_and255]) ?_
                              have hl485 : 12288 ≤ hq473.2.2.2.1 c484 ∧ hq473.2.2.2.1 c484 ≤ 12288 := gJ.rowl (G := gGG) sq473.1 tc484 rfl
                              refine gs_ast rfl (by decide) sq473 tc484 rfl rfl rfl (by decide) (fun _ => rfl) (by omega) (by omega) (fun _ => (by decide : (23999 : Nat) ∈ ([1045, 1046, 1047, 1048, 20999, 23999] : List Nat))) (by omega) (by omega) (fun h486 sh486 eh486 fh486 => ?_)
                              have pr487 := gEl.pt fh486 tc484 (by decide) pr482
                              have s488 := (fh486 m 3 (fun q => absurd (((tm).symm.trans (congrArg ty q.1)).trans tc484) (by decide))).trans s474
                              have s489 := (fh486 m 44 (fun q => absurd (((tm).symm.trans (congrArg ty q.1)).trans tc484) (by decide))).trans s475
                              have s490 := (fh486 m 41 (fun q => absurd (((tm).symm.trans (congrArg ty q.1)).trans tc484) (by decide))).trans s476
                              have s491 := (fh486 m 42 (fun q => absurd (((tm).symm.trans (congrArg ty q.1)).trans tc484) (by decide))).trans s477
                              have s492 := (fh486 m 45 (fun q => absurd (((tm).symm.trans (congrArg ty q.1)).trans tc484) (by decide))).trans s478
                              have s493 := (fh486 m 36 (fun q => absurd (((tm).symm.trans (congrArg ty q.1)).trans tc484) (by decide))).trans s479
                              have s494 := (fh486 m 47 (fun q => absurd (((tm).symm.trans (congrArg ty q.1)).trans tc484) (by decide))).trans s480
                              have s495 := (fh486 m 48 (fun q => absurd (((tm).symm.trans (congrArg ty q.1)).trans tc484) (by decide))).trans s481
                              have s496 := (fh486 m 46 (fun q => absurd (((tm).symm.trans (congrArg ty q.1)).trans tc484) (by decide))).trans efq473_0
                              have s497 := (fh486 m 37 (fun q => absurd (((tm).symm.trans (congrArg ty q.1)).trans tc484) (by decide))).trans ec484
                              refine gy_s 2 (pc' := 5) (L' := [some (.ref m), some (.int (zi b)), some (.int (zi p)), some (.int ((zi kk) + zi 1)), some (.int (zi zq55)), some (.int (zi (zq55 / 16))), some (.int (zi (zq55 % 16))), some (.int (zi (-z321))), some (.int (zi lf)), some (.int (zi go))]) (S' := []) (L2 := [some (.ref m), some (.int (zi b)), some (.int (zi p)), some (.int (zi (kk + 1))), some (.int (zi zq55)), some (.int (zi (zq55 / 16))), some (.int (zi (zq55 % 16))), some (.int (zi (-z321))), some (.int (zi lf)), some (.int (zi go))]) (S2 := []) rfl (by simp only [zi_add, zi_sub, zi_mul, zi_neg, zi_and1, zi_and7, zi_and15, zi_and31, zi_and255]) (by simp only [zi_add, zi_sub, zi_mul, zi_neg, zi_and1, zi_and7, zi_and15, zi_and31, zi_and255]) ?_
                              exact gz_wk (ihlp2 h486 (kk + 1) av kv fq473_0 rv (by omega) sh486 (by omega) (by omega) (by omega) (by omega) (by omega) (by omega) (by omega) (by omega) s488 s489 s490 s491 s494 s495 s496 s492 pr487) (gLw.s (gLw.s (gLw.s (gLw.s (gLw.n (gLw.n (gLw.n (gLw.n (gLw.n (gLw.n gLw.z))))))))))
                            · refine gy_ifF rfl (by decide) (by decide) (by omega) hc483 ?_
                              exact gz_end (I := .return_) (len := 1) rfl (Or.inl rfl) ⟨sq473, av, kv, fq473_0, rfl, s480, (by omega), (by omega), s481, (by omega), (by omega), efq473_0, (by omega), (by omega), (by omega), (by omega), (by omega)⟩
                          · refine gy_icF rfl (by decide) (by decide) (by omega) (by omega) hc472 ?_
                            refine gz_s 1 (pc' := 178) (L' := [some (.ref m), some (.int (zi b)), some (.int (zi p)), some (.int (zi kk)), some (.int (zi zq55)), some (.int (zi (zq55 / 16))), some (.int (zi (zq55 % 16))), some (.int (zi (-z321))), some (.int (zi lf)), some (.int (zi go))]) (S' := [.ref m]) rfl ?_
                            refine gs_gtr rfl (by decide) rfl sh419.1 tm rfl rfl rfl (fun c498 ec498 tc498 => ?_)
                            refine gy_s 3 (pc' := 184) (L' := [some (.ref m), some (.int (zi b)), some (.int (zi p)), some (.int (zi kk)), some (.int (zi zq55)), some (.int (zi (zq55 / 16))), some (.int (zi (zq55 % 16))), some (.int (zi (-z321))), some (.int (zi lf)), some (.int (zi go))]) (S' := [.int ((zi p) + (zi kk)), .ref c498]) (L2 := [some (.ref m), some (.int (zi b)), some (.int (zi p)), some (.int (zi kk)), some (.int (zi zq55)), some (.int (zi (zq55 / 16))), some (.int (zi (zq55 % 16))), some (.int (zi (-z321))), some (.int (zi lf)), some (.int (zi go))]) (S2 := [.int (zi (p + kk)), .ref c498]) rfl (by simp only [zi_add, zi_sub, zi_mul, zi_neg, zi_and1, zi_and7, zi_and15, zi_and31, zi_and255]) (by simp only [zi_add, zi_sub, zi_mul, zi_neg, zi_and1, zi_and7, zi_and15, zi_and31, zi_and255]) ?_
                            have hl499 : 12288 ≤ h419.2.2.2.1 c498 ∧ h419.2.2.2.1 c498 ≤ 12288 := gJ.rowl (G := gGG) sh419.1 tc498 rfl
                            refine gs_ald rfl (by decide) sh419.1 tc498 rfl rfl rfl (by decide) (fun _ => rfl) (by omega) (by omega) (fun z500 ez500 az500 bz500 => ?_)
                            by_cases hc501 : (z500 : Int) = 0
                            · refine gy_ifT (pc' := 212) rfl (by decide) (by decide) (by omega) hc501 ?_
                              refine gz_s 1 (pc' := 214) (L' := [some (.ref m), some (.int (zi b)), some (.int (zi p)), some (.int (zi kk)), some (.int (zi zq55)), some (.int (zi (zq55 / 16))), some (.int (zi (zq55 % 16))), some (.int (zi (-z321))), some (.int (zi lf)), some (.int (zi go))]) (S' := [.int (zi lf)]) rfl ?_
                              by_cases hc502 : (lf : Int) ≤ 0
                              · refine gy_ifT (pc' := 221) rfl (by decide) (by decide) (by omega) hc502 ?_
                                refine gy_s 4 (pc' := 229) (L' := [some (.ref m), some (.int (zi b)), some (.int (zi p)), some (.int (zi kk)), some (.int (zi zq55)), some (.int (zi (zq55 / 16))), some (.int (zi (zq55 % 16))), some (.int (zi (-z321))), some (.int ((zi lf) + zi (-1))), some (.int (zi 0))]) (S' := [.int (zi 0)]) (L2 := [some (.ref m), some (.int (zi b)), some (.int (zi p)), some (.int (zi kk)), some (.int (zi zq55)), some (.int (zi (zq55 / 16))), some (.int (zi (zq55 % 16))), some (.int (zi (-z321))), some (.int (zi (lf + (-1)))), some (.int (zi 0))]) (S2 := [.int (zi 0)]) rfl (by simp only [zi_add, zi_sub, zi_mul, zi_neg, zi_and1, zi_and7, zi_and15, zi_and31, zi_and255]) (by simp only [zi_add, zi_sub, zi_mul, zi_neg, zi_and1, zi_and7, zi_and15, zi_and31, zi_and255]) ?_
                                refine gy_ifT (pc' := 238) rfl (by decide) (by decide) (by omega) (by first | (simp [zc]; done) | (simp only [zc]; omega)) ?_
                                refine gz_s 3 (pc' := 164) (L' := [some (.ref m), some (.int (zi b)), some (.int (zi p)), some (.int (zi kk)), some (.int (zi zq55)), some (.int (zi (zq55 / 16))), some (.int (zi (zq55 % 16))), some (.int (zi (-z321))), some (.int (zi (lf + (-1)))), some (.int (zi 0))]) (S' := []) rfl ?_
                                exact gz_wk (ihlp418 h419 kk (lf + (-1)) 0 av kv uv (by omega) sh419 (by omega) (by omega) (by omega) (by omega) (by omega) (by omega) (by omega) (by omega) (by omega) (by omega) (by omega) lp418k0 lp418k1 lp418k2 lp418k3 lp418k4 lp418k5 lp418k6 lp418k7 lp418k8 lp418k9) (gLw.s (gLw.s (gLw.s (gLw.s (gLw.s (gLw.s (gLw.s (gLw.s (gLw.s (gLw.s gLw.z))))))))))
                              · refine gy_ifF rfl (by decide) (by decide) (by omega) hc502 ?_
                                refine gy_s 5 (pc' := 229) (L' := [some (.ref m), some (.int (zi b)), some (.int (zi p)), some (.int (zi kk)), some (.int (zi zq55)), some (.int (zi (zq55 / 16))), some (.int (zi (zq55 % 16))), some (.int (zi (-z321))), some (.int ((zi lf) + zi (-1))), some (.int (zi 1))]) (S' := [.int (zi 1)]) (L2 := [some (.ref m), some (.int (zi b)), some (.int (zi p)), some (.int (zi kk)), some (.int (zi zq55)), some (.int (zi (zq55 / 16))), some (.int (zi (zq55 % 16))), some (.int (zi (-z321))), some (.int (zi (lf + (-1)))), some (.int (zi 1))]) (S2 := [.int (zi 1)]) rfl (by simp only [zi_add, zi_sub, zi_mul, zi_neg, zi_and1, zi_and7, zi_and15, zi_and31, zi_and255]) (by simp only [zi_add, zi_sub, zi_mul, zi_neg, zi_and1, zi_and7, zi_and15, zi_and31, zi_and255]) ?_
                                refine gy_ifF rfl (by decide) (by decide) (by omega) (by first | (simp [zc]; done) | (simp only [zc]; omega)) ?_
                                refine gy_s 6 (pc' := 164) (L' := [some (.ref m), some (.int (zi b)), some (.int (zi p)), some (.int ((zi kk) + (zi 1))), some (.int (zi zq55)), some (.int (zi (zq55 / 16))), some (.int (zi (zq55 % 16))), some (.int (zi (-z321))), some (.int (zi (lf + (-1)))), some (.int (zi 1))]) (S' := []) (L2 := [some (.ref m), some (.int (zi b)), some (.int (zi p)), some (.int (zi (kk + 1))), some (.int (zi zq55)), some (.int (zi (zq55 / 16))), some (.int (zi (zq55 % 16))), some (.int (zi (-z321))), some (.int (zi (lf + (-1)))), some (.int (zi 1))]) (S2 := []) rfl (by simp only [zi_add, zi_sub, zi_mul, zi_neg, zi_and1, zi_and7, zi_and15, zi_and31, zi_and255]) (by simp only [zi_add, zi_sub, zi_mul, zi_neg, zi_and1, zi_and7, zi_and15, zi_and31, zi_and255]) ?_
                                exact gz_wk (ihlp418 h419 (kk + 1) (lf + (-1)) 1 av kv uv (by omega) sh419 (by omega) (by omega) (by omega) (by omega) (by omega) (by omega) (by omega) (by omega) (by omega) (by omega) (by omega) lp418k0 lp418k1 lp418k2 lp418k3 lp418k4 lp418k5 lp418k6 lp418k7 lp418k8 lp418k9) (gLw.s (gLw.s (gLw.s (gLw.s (gLw.s (gLw.s (gLw.s (gLw.s (gLw.s (gLw.s gLw.z))))))))))
                            · refine gy_ifF rfl (by decide) (by decide) (by omega) hc501 ?_
                              refine gy_s 4 (pc' := 192) (L' := [some (.ref m), some (.int (zi b)), some (.int (zi p)), some (.int (zi kk)), some (.int (zi zq55)), some (.int (zi (zq55 / 16))), some (.int (zi (zq55 % 16))), some (.int (zi (-z321))), some (.int (zi lf)), some (.int (zi go))]) (S' := [.int ((zi p) + (zi kk)), .ref m]) (L2 := [some (.ref m), some (.int (zi b)), some (.int (zi p)), some (.int (zi kk)), some (.int (zi zq55)), some (.int (zi (zq55 / 16))), some (.int (zi (zq55 % 16))), some (.int (zi (-z321))), some (.int (zi lf)), some (.int (zi go))]) (S2 := [.int (zi (p + kk)), .ref m]) rfl (by simp only [zi_add, zi_sub, zi_mul, zi_neg, zi_and1, zi_and7, zi_and15, zi_and31, zi_and255]) (by simp only [zi_add, zi_sub, zi_mul, zi_neg, zi_and1, zi_and7, zi_and15, zi_and31, zi_and255]) ?_
                              refine gz_call rfl (by decide) rfl (by decide) (by decide) (gcal_of rfl rfl rfl (Nat.le_of_ble_eq_true rfl) (gJ.recv (G := gGG) sh419.1 tm rfl rfl)) (mm_grow _ sh419.1 m tm (p + kk) (by omega) av lp418k6 (by omega) kv lp418k7 (by omega) sz lp418k0 (by omega) uv lp418k8 (by omega) lw lp418k1 (by omega) (by omega)) (fun q503 _ wq503 => ?_)
                              obtain ⟨pq503, oq503, hq503⟩ := q503
                              obtain ⟨xq503, fq503_0, fq503_1, fq503_2, gq503, efq503_0, afq503_0, bfq503_0, efq503_1, afq503_1, bfq503_1, efq503_2, afq503_2, bfq503_2, uq503_0, uq503_1, uq503_2⟩ := wq503
                              refine ⟨_, gq503, ?_⟩
                              show gz gPP gGG gcn _ _ 195 [some (.ref m), some (.int (zi b)), some (.int (zi p)), some (.int (zi kk)), some (.int (zi zq55)), some (.int (zi (zq55 / 16))), some (.int (zi (zq55 % 16))), some (.int (zi (-z321))), some (.int (zi lf)), some (.int (zi go))] [] hq503 _
                              have sq503 := gSs.tr sh419 xq503 (by decide)
                              have s504 := (xq503.2.2.2.2.2 m 3 (by rw [tm]; decide)).trans lp418k0
                              have s505 := (xq503.2.2.2.2.2 m 44 (by rw [tm]; decide)).trans lp418k1
                              have s506 := (xq503.2.2.2.2.2 m 41 (by rw [tm]; decide)).trans lp418k2
                              have s507 := (xq503.2.2.2.2.2 m 42 (by rw [tm]; decide)).trans lp418k3
                              have s508 := (xq503.2.2.2.2.2 m 45 (by rw [tm]; decide)).trans lp418k4
                              have s509 := (xq503.2.2.2.2.2 m 36 (by rw [tm]; decide)).trans lp418k5
                              have s510 := (xq503.2.2.2.2.2 m 37 (by rw [tm]; decide)).trans ec498
                              have pr511 := gEl.fr xq503.2 (by decide) (fun _ => rfl) lp418k9
                              refine gz_s 1 (pc' := 196) (L' := [some (.ref m), some (.int (zi b)), some (.int (zi p)), some (.int (zi kk)), some (.int (zi zq55)), some (.int (zi (zq55 / 16))), some (.int (zi (zq55 % 16))), some (.int (zi (-z321))), some (.int (zi lf)), some (.int (zi go))]) (S' := [.ref m]) rfl ?_
                              refine gs_gtk rfl (by decide) rfl sq503.1 tm rfl rfl efq503_2 ?_
                              by_cases hc512 : ¬ (fq503_2 : Int) = 0
                              · refine gy_ifT (pc' := 206) rfl (by decide) (by decide) (by omega) hc512 ?_
                                refine gz_s 4 (pc' := 229) (L' := [some (.ref m), some (.int (zi b)), some (.int (zi p)), some (.int (zi kk)), some (.int (zi zq55)), some (.int (zi (zq55 / 16))), some (.int (zi (zq55 % 16))), some (.int (zi (-z321))), some (.int (zi lf)), some (.int (zi 0))]) (S' := [.int (zi 0)]) rfl ?_
                                refine gy_ifT (pc' := 238) rfl (by decide) (by decide) (by omega) (by first | (simp [zc]; done) | (simp only [zc]; omega)) ?_
                                refine gz_s 3 (pc' := 164) (L' := [some (.ref m), some (.int (zi b)), some (.int (zi p)), some (.int (zi kk)), some (.int (zi zq55)), some (.int (zi (zq55 / 16))), some (.int (zi (zq55 % 16))), some (.int (zi (-z321))), some (.int (zi lf)), some (.int (zi 0))]) (S' := []) rfl ?_
                                exact gz_wk (ihlp418 hq503 kk lf 0 fq503_0 fq503_1 fq503_2 (by omega) sq503 (by omega) (by omega) (by omega) (by omega) (by omega) (by omega) (by omega) (by omega) (by omega) (by omega) (by omega) s504 s505 s506 s507 s508 s509 efq503_0 efq503_1 efq503_2 pr511) (gLw.s (gLw.s (gLw.s (gLw.s (gLw.s (gLw.s (gLw.s (gLw.s (gLw.s (gLw.s gLw.z))))))))))
                              · refine gy_ifF rfl (by decide) (by decide) (by omega) hc512 ?_
                                refine gz_s 5 (pc' := 229) (L' := [some (.ref m), some (.int (zi b)), some (.int (zi p)), some (.int (zi kk)), some (.int (zi zq55)), some (.int (zi (zq55 / 16))), some (.int (zi (zq55 % 16))), some (.int (zi (-z321))), some (.int (zi lf)), some (.int (zi 1))]) (S' := [.int (zi 1)]) rfl ?_
                                refine gy_ifF rfl (by decide) (by decide) (by omega) (by first | (simp [zc]; done) | (simp only [zc]; omega)) ?_
                                refine gy_s 6 (pc' := 164) (L' := [some (.ref m), some (.int (zi b)), some (.int (zi p)), some (.int ((zi kk) + (zi 1))), some (.int (zi zq55)), some (.int (zi (zq55 / 16))), some (.int (zi (zq55 % 16))), some (.int (zi (-z321))), some (.int (zi lf)), some (.int (zi 1))]) (S' := []) (L2 := [some (.ref m), some (.int (zi b)), some (.int (zi p)), some (.int (zi (kk + 1))), some (.int (zi zq55)), some (.int (zi (zq55 / 16))), some (.int (zi (zq55 % 16))), some (.int (zi (-z321))), some (.int (zi lf)), some (.int (zi 1))]) (S2 := []) rfl (by simp only [zi_add, zi_sub, zi_mul, zi_neg, zi_and1, zi_and7, zi_and15, zi_and31, zi_and255]) (by simp only [zi_add, zi_sub, zi_mul, zi_neg, zi_and1, zi_and7, zi_and15, zi_and31, zi_and255]) ?_
                                exact gz_wk (ihlp418 hq503 (kk + 1) lf 1 fq503_0 fq503_1 fq503_2 (by omega) sq503 (by omega) (by omega) (by omega) (by omega) (by omega) (by omega) (by omega) (by omega) (by omega) (by omega) (by omega) s504 s505 s506 s507 s508 s509 efq503_0 efq503_1 efq503_2 pr511) (gLw.s (gLw.s (gLw.s (gLw.s (gLw.s (gLw.s (gLw.s (gLw.s (gLw.s (gLw.s gLw.z))))))))))
                    exact gz_wk (lp418 _ hq312 k (zq55 / 16) 1 fq312_0 fq312_1 fq312_2 (Nat.lt_succ_self _) sq312 (by omega) (by omega) (by omega) (by omega) (by omega) (by omega) (by omega) (by omega) (by omega) (by omega) (by omega) s313 s314 s315 s316 s317 s318 efq312_0 efq312_1 efq312_2 pr319) (gLw.s (gLw.s (gLw.s (gLw.s (gLw.s (gLw.s (gLw.s (gLw.s (gLw.s (gLw.s gLw.z))))))))))
                · refine gy_icF rfl (by decide) (by decide) (by omega) (by omega) hc320 ?_
                  refine gz_s 2 (pc' := 130) (L' := [some (.ref m), some (.int (zi b)), some (.int (zi p)), some (.int (zi k)), some (.int (zi zq55)), some (.int (zi (zq55 / 16))), some (.int (zi (zq55 % 16))), none, none, none]) (S' := [.ref m, .int (zi 1)]) rfl ?_
                  refine gs_gtk rfl (by decide) rfl sq312.1 tm rfl rfl s314 ?_
                  refine gy_sh1 rfl (by decide) (by omega) (fun z513 az513 bz513 cz513 => ?_)
                  refine gz_s 5 (pc' := 151) (L' := [some (.ref m), some (.int (zi b)), some (.int (zi p)), some (.int (zi k)), some (.int (zi zq55)), some (.int (zi (zq55 / 16))), some (.int (zi (zq55 % 16))), some (.int (zi z513)), some (.int (zi (zq55 / 16))), none]) (S' := [.ref m]) rfl ?_
                  refine gs_gtk rfl (by decide) rfl sq312.1 tm rfl rfl efq312_2 ?_
                  by_cases hc514 : ¬ (fq312_2 : Int) = 0
                  · refine gy_ifT (pc' := 161) rfl (by decide) (by decide) (by omega) hc514 ?_
                    refine gz_s 2 (pc' := 164) (L' := [some (.ref m), some (.int (zi b)), some (.int (zi p)), some (.int (zi k)), some (.int (zi zq55)), some (.int (zi (zq55 / 16))), some (.int (zi (zq55 % 16))), some (.int (zi z513)), some (.int (zi (zq55 / 16))), some (.int (zi 0))]) (S' := []) rfl ?_
                    have lp515 : ∀ (fu : Nat) (h516 : gH) (kk : Int) (lf : Int) (go : Int) (av : Int) (kv : Int) (uv : Int), (2 * (200 - kk) + go).toNat < fu → gSs rT 1027 ty [1045, 1046, 1047, 1048, 20999, 23999] h h516 → (1 ≤ kk ∧ kk ≤ 64) → ((-1) ≤ lf ∧ lf ≤ 15) → (0 ≤ go ∧ go ≤ 1) → (0 ≤ av ∧ av ≤ 2001) → (0 ≤ kv ∧ kv ≤ 7) → (0 ≤ uv ∧ uv ≤ 1) → (kv = 0 ∨ av < sz) → (a0 ≤ av) → (uv = 0 → u0 = 0) → (k ≤ kk) → (go = 1 → 0 ≤ lf) → h516.2.2.2.2 m 3 = .int (zi sz) → h516.2.2.2.2 m 44 = .int (zi lw) → h516.2.2.2.2 m 41 = .int (zi fr) → h516.2.2.2.2 m 42 = .int (zi tt) → h516.2.2.2.2 m 45 = .int (zi rv) → h516.2.2.2.2 m 36 = .ref c51 → h516.2.2.2.2 m 47 = .int (zi av) → h516.2.2.2.2 m 48 = .int (zi kv) → h516.2.2.2.2 m 46 = .int (zi uv) → gEl ty 22 b 4 7 h516 → gz gPP gGG gcn (d + 5) gt161 164 [some (.ref m), some (.int (zi b)), some (.int (zi p)), some (.int (zi kk)), some (.int (zi zq55)), some (.int (zi (zq55 / 16))), some (.int (zi (zq55 % 16))), some (.int (zi z513)), some (.int (zi lf)), some (.int (zi go))] [] h516 (fun q _ => gSs rT 1027 ty [1045, 1046, 1047, 1048, 20999, 23999] h q.2.2 ∧ ∃ a1 k1 u1 : Int, gfin gt161 q.1 q.2.1 = some none ∧ q.2.2.2.2.2.2 m 47 = .int (zi a1) ∧ 0 ≤ a1 ∧ a1 ≤ 2001 ∧ q.2.2.2.2.2.2 m 48 = .int (zi k1) ∧ 0 ≤ k1 ∧ k1 ≤ 7 ∧ q.2.2.2.2.2.2 m 46 = .int (zi u1) ∧ 0 ≤ u1 ∧ u1 ≤ 1 ∧ (k1 = 0 ∨ a1 < sz) ∧ (a0 ≤ a1) ∧ (u1 = 0 → u0 = 0)) := by
                      intro fu
                      induction fu with
                      | zero => intro h516 kk lf go av kv uv hm; exact absurd hm (Nat.not_lt_zero _)
                      | succ fu ihlp515 =>
                        intro h516 kk lf go av kv uv lp515m sh516 lp515f0 lp515f1 lp515f2 lp515f3 lp515f4 lp515f5 lp515f6 lp515f7 lp515f8 lp515f9 lp515f10 lp515k0 lp515k1 lp515k2 lp515k3 lp515k4 lp515k5 lp515k6 lp515k7 lp515k8 lp515k9
                        refine gz_s 1 (pc' := 166) (L' := [some (.ref m), some (.int (zi b)), some (.int (zi p)), some (.int (zi kk)), some (.int (zi zq55)), some (.int (zi (zq55 / 16))), some (.int (zi (zq55 % 16))), some (.int (zi z513)), some (.int (zi lf)), some (.int (zi go))]) (S' := [.int (zi go)]) rfl ?_
                        by_cases hc517 : (go : Int) = 0
                        · refine gy_ifT (pc' := 243) rfl (by decide) (by decide) (by omega) hc517 ?_
                          refine gz_s 3 (pc' := 246) (L' := [some (.ref m), some (.int (zi b)), some (.int (zi p)), some (.int (zi kk)), some (.int (zi zq55)), some (.int (zi (zq55 / 16))), some (.int (zi (zq55 % 16))), some (.int (zi z513)), some (.int (zi lf)), some (.int (zi go))]) (S' := [.ref m, .int (zi kk), .ref m]) rfl ?_
                          refine gs_gtk rfl (by decide) rfl sh516.1 tm rfl rfl lp515k3 ?_
                          by_cases hc518 : (kk : Int) ≤ tt
                          · refine gy_icT (pc' := 257) rfl (by decide) (by decide) (by omega) (by omega) hc518 ?_
                            refine gz_s 2 (pc' := 262) (L' := [some (.ref m), some (.int (zi b)), some (.int (zi p)), some (.int (zi kk)), some (.int (zi zq55)), some (.int (zi (zq55 / 16))), some (.int (zi (zq55 % 16))), some (.int (zi z513)), some (.int (zi lf)), some (.int (zi go))]) (S' := [.int (zi 1), .ref m]) rfl ?_
                            refine gz_call rfl (by decide) rfl (by decide) (by decide) (gcal_of rfl rfl rfl (Nat.le_of_ble_eq_true rfl) (gJ.recv (G := gGG) sh516.1 tm rfl rfl)) (mm_keep _ sh516.1 m tm 1 (by omega) uv lp515k8 (by omega)) (fun q519 _ wq519 => ?_)
                            obtain ⟨pq519, oq519, hq519⟩ := q519
                            obtain ⟨xq519, fq519_0, gq519, efq519_0, afq519_0, bfq519_0, uq519_0⟩ := wq519
                            refine ⟨_, gq519, ?_⟩
                            show gz gPP gGG gcn _ _ 265 [some (.ref m), some (.int (zi b)), some (.int (zi p)), some (.int (zi kk)), some (.int (zi zq55)), some (.int (zi (zq55 / 16))), some (.int (zi (zq55 % 16))), some (.int (zi z513)), some (.int (zi lf)), some (.int (zi go))] [] hq519 _
                            have sq519 := gSs.tr sh516 xq519 (by decide)
                            have s520 := (xq519.2.2.2.2.2 m 3 (by rw [tm]; decide)).trans lp515k0
                            have s521 := (xq519.2.2.2.2.2 m 44 (by rw [tm]; decide)).trans lp515k1
                            have s522 := (xq519.2.2.2.2.2 m 41 (by rw [tm]; decide)).trans lp515k2
                            have s523 := (xq519.2.2.2.2.2 m 42 (by rw [tm]; decide)).trans lp515k3
                            have s524 := (xq519.2.2.2.2.2 m 45 (by rw [tm]; decide)).trans lp515k4
                            have s525 := (xq519.2.2.2.2.2 m 36 (by rw [tm]; decide)).trans lp515k5
                            have s526 := (xq519.2.2.2.2.2 m 47 (by rw [tm]; decide)).trans lp515k6
                            have s527 := (xq519.2.2.2.2.2 m 48 (by rw [tm]; decide)).trans lp515k7
                            have pr528 := gEl.fr xq519.2 (by decide) (fun _ => rfl) lp515k9
                            refine gz_s 1 (pc' := 266) (L' := [some (.ref m), some (.int (zi b)), some (.int (zi p)), some (.int (zi kk)), some (.int (zi zq55)), some (.int (zi (zq55 / 16))), some (.int (zi (zq55 % 16))), some (.int (zi z513)), some (.int (zi lf)), some (.int (zi go))]) (S' := [.ref m]) rfl ?_
                            refine gs_gtk rfl (by decide) rfl sq519.1 tm rfl rfl efq519_0 ?_
                            by_cases hc529 : (fq519_0 : Int) = 0
                            · refine gy_ifT (pc' := 273) rfl (by decide) (by decide) (by omega) hc529 ?_
                              refine gz_s 2 (pc' := 276) (L' := [some (.ref m), some (.int (zi b)), some (.int (zi p)), some (.int (zi kk)), some (.int (zi zq55)), some (.int (zi (zq55 / 16))), some (.int (zi (zq55 % 16))), some (.int (zi z513)), some (.int (zi lf)), some (.int (zi go))]) (S' := [.int (zi 1), .int (zi (zq55 % 16))]) rfl ?_
                              refine gy_icF rfl (by decide) (by decide) (by omega) (by omega) (by first | (simp [zc]; done) | (simp only [zc]; omega)) ?_
                              refine gz_s 1 (pc' := 280) (L' := [some (.ref m), some (.int (zi b)), some (.int (zi p)), some (.int (zi kk)), some (.int (zi zq55)), some (.int (zi (zq55 / 16))), some (.int (zi (zq55 % 16))), some (.int (zi z513)), some (.int (zi lf)), some (.int (zi go))]) (S' := [.ref m]) rfl ?_
                              refine gs_gtr rfl (by decide) rfl sq519.1 tm rfl rfl rfl (fun c530 ec530 tc530 => ?_)
                              refine gy_s 4 (pc' := 288) (L' := [some (.ref m), some (.int (zi b)), some (.int (zi p)), some (.int (zi kk)), some (.int (zi zq55)), some (.int (zi (zq55 / 16))), some (.int (zi (zq55 % 16))), some (.int (zi z513)), some (.int (zi lf)), some (.int (zi go))]) (S' := [.int (zi z513), .int ((zi p) + (zi kk)), .ref c530]) (L2 := [some (.ref m), some (.int (zi b)), some (.int (zi p)), some (.int (zi kk)), some (.int (zi zq55)), some (.int (zi (zq55 / 16))), some (.int (zi (zq55 % 16))), some (.int (zi z513)), some (.int (zi lf)), some (.int (zi go))]) (S2 := [.int (zi z513), .int (zi (p + kk)), .ref c530]) rfl (by simp only [zi_add, zi_sub, zi_mul, zi_neg, zi_and1, zi_and7, zi_and15, zi_and31, zi_and255]) (by simp only [zi_add, zi_sub, zi_mul, zi_neg, zi_and1, zi_and7, zi_and15, zi_and31, zi_and255]) ?_
                              have hl531 : 12288 ≤ hq519.2.2.2.1 c530 ∧ hq519.2.2.2.1 c530 ≤ 12288 := gJ.rowl (G := gGG) sq519.1 tc530 rfl
                              refine gs_ast rfl (by decide) sq519 tc530 rfl rfl rfl (by decide) (fun _ => rfl) (by omega) (by omega) (fun _ => (by decide : (23999 : Nat) ∈ ([1045, 1046, 1047, 1048, 20999, 23999] : List Nat))) (by omega) (by omega) (fun h532 sh532 eh532 fh532 => ?_)
                              have pr533 := gEl.pt fh532 tc530 (by decide) pr528
                              have s534 := (fh532 m 3 (fun q => absurd (((tm).symm.trans (congrArg ty q.1)).trans tc530) (by decide))).trans s520
                              have s535 := (fh532 m 44 (fun q => absurd (((tm).symm.trans (congrArg ty q.1)).trans tc530) (by decide))).trans s521
                              have s536 := (fh532 m 41 (fun q => absurd (((tm).symm.trans (congrArg ty q.1)).trans tc530) (by decide))).trans s522
                              have s537 := (fh532 m 42 (fun q => absurd (((tm).symm.trans (congrArg ty q.1)).trans tc530) (by decide))).trans s523
                              have s538 := (fh532 m 45 (fun q => absurd (((tm).symm.trans (congrArg ty q.1)).trans tc530) (by decide))).trans s524
                              have s539 := (fh532 m 36 (fun q => absurd (((tm).symm.trans (congrArg ty q.1)).trans tc530) (by decide))).trans s525
                              have s540 := (fh532 m 47 (fun q => absurd (((tm).symm.trans (congrArg ty q.1)).trans tc530) (by decide))).trans s526
                              have s541 := (fh532 m 48 (fun q => absurd (((tm).symm.trans (congrArg ty q.1)).trans tc530) (by decide))).trans s527
                              have s542 := (fh532 m 46 (fun q => absurd (((tm).symm.trans (congrArg ty q.1)).trans tc530) (by decide))).trans efq519_0
                              have s543 := (fh532 m 37 (fun q => absurd (((tm).symm.trans (congrArg ty q.1)).trans tc530) (by decide))).trans ec530
                              refine gy_s 2 (pc' := 5) (L' := [some (.ref m), some (.int (zi b)), some (.int (zi p)), some (.int ((zi kk) + zi 1)), some (.int (zi zq55)), some (.int (zi (zq55 / 16))), some (.int (zi (zq55 % 16))), some (.int (zi z513)), some (.int (zi lf)), some (.int (zi go))]) (S' := []) (L2 := [some (.ref m), some (.int (zi b)), some (.int (zi p)), some (.int (zi (kk + 1))), some (.int (zi zq55)), some (.int (zi (zq55 / 16))), some (.int (zi (zq55 % 16))), some (.int (zi z513)), some (.int (zi lf)), some (.int (zi go))]) (S2 := []) rfl (by simp only [zi_add, zi_sub, zi_mul, zi_neg, zi_and1, zi_and7, zi_and15, zi_and31, zi_and255]) (by simp only [zi_add, zi_sub, zi_mul, zi_neg, zi_and1, zi_and7, zi_and15, zi_and31, zi_and255]) ?_
                              exact gz_wk (ihlp2 h532 (kk + 1) av kv fq519_0 rv (by omega) sh532 (by omega) (by omega) (by omega) (by omega) (by omega) (by omega) (by omega) (by omega) s534 s535 s536 s537 s540 s541 s542 s538 pr533) (gLw.s (gLw.s (gLw.s (gLw.s (gLw.n (gLw.n (gLw.n (gLw.n (gLw.n (gLw.n gLw.z))))))))))
                            · refine gy_ifF rfl (by decide) (by decide) (by omega) hc529 ?_
                              exact gz_end (I := .return_) (len := 1) rfl (Or.inl rfl) ⟨sq519, av, kv, fq519_0, rfl, s526, (by omega), (by omega), s527, (by omega), (by omega), efq519_0, (by omega), (by omega), (by omega), (by omega), (by omega)⟩
                          · refine gy_icF rfl (by decide) (by decide) (by omega) (by omega) hc518 ?_
                            refine gz_s 1 (pc' := 254) (L' := [some (.ref m), some (.int (zi b)), some (.int (zi p)), some (.int (zi kk)), some (.int (zi zq55)), some (.int (zi (zq55 / 16))), some (.int (zi (zq55 % 16))), some (.int (zi z513)), some (.int (zi lf)), some (.int (zi go))]) (S' := [.int (zi (zq55 % 16)), .ref m]) rfl ?_
                            refine gy_ifT (pc' := 261) rfl (by decide) (by decide) (by omega) (by first | (simp [zc]; done) | (simp only [zc]; omega)) ?_
                            refine gz_s 1 (pc' := 262) (L' := [some (.ref m), some (.int (zi b)), some (.int (zi p)), some (.int (zi kk)), some (.int (zi zq55)), some (.int (zi (zq55 / 16))), some (.int (zi (zq55 % 16))), some (.int (zi z513)), some (.int (zi lf)), some (.int (zi go))]) (S' := [.int (zi 0), .ref m]) rfl ?_
                            refine gz_call rfl (by decide) rfl (by decide) (by decide) (gcal_of rfl rfl rfl (Nat.le_of_ble_eq_true rfl) (gJ.recv (G := gGG) sh516.1 tm rfl rfl)) (mm_keep _ sh516.1 m tm 0 (by omega) uv lp515k8 (by omega)) (fun q544 _ wq544 => ?_)
                            obtain ⟨pq544, oq544, hq544⟩ := q544
                            obtain ⟨xq544, fq544_0, gq544, efq544_0, afq544_0, bfq544_0, uq544_0⟩ := wq544
                            refine ⟨_, gq544, ?_⟩
                            show gz gPP gGG gcn _ _ 265 [some (.ref m), some (.int (zi b)), some (.int (zi p)), some (.int (zi kk)), some (.int (zi zq55)), some (.int (zi (zq55 / 16))), some (.int (zi (zq55 % 16))), some (.int (zi z513)), some (.int (zi lf)), some (.int (zi go))] [] hq544 _
                            have sq544 := gSs.tr sh516 xq544 (by decide)
                            have s545 := (xq544.2.2.2.2.2 m 3 (by rw [tm]; decide)).trans lp515k0
                            have s546 := (xq544.2.2.2.2.2 m 44 (by rw [tm]; decide)).trans lp515k1
                            have s547 := (xq544.2.2.2.2.2 m 41 (by rw [tm]; decide)).trans lp515k2
                            have s548 := (xq544.2.2.2.2.2 m 42 (by rw [tm]; decide)).trans lp515k3
                            have s549 := (xq544.2.2.2.2.2 m 45 (by rw [tm]; decide)).trans lp515k4
                            have s550 := (xq544.2.2.2.2.2 m 36 (by rw [tm]; decide)).trans lp515k5
                            have s551 := (xq544.2.2.2.2.2 m 47 (by rw [tm]; decide)).trans lp515k6
                            have s552 := (xq544.2.2.2.2.2 m 48 (by rw [tm]; decide)).trans lp515k7
                            have pr553 := gEl.fr xq544.2 (by decide) (fun _ => rfl) lp515k9
                            refine gz_s 1 (pc' := 266) (L' := [some (.ref m), some (.int (zi b)), some (.int (zi p)), some (.int (zi kk)), some (.int (zi zq55)), some (.int (zi (zq55 / 16))), some (.int (zi (zq55 % 16))), some (.int (zi z513)), some (.int (zi lf)), some (.int (zi go))]) (S' := [.ref m]) rfl ?_
                            refine gs_gtk rfl (by decide) rfl sq544.1 tm rfl rfl efq544_0 ?_
                            by_cases hc554 : (fq544_0 : Int) = 0
                            · refine gy_ifT (pc' := 273) rfl (by decide) (by decide) (by omega) hc554 ?_
                              refine gz_s 2 (pc' := 276) (L' := [some (.ref m), some (.int (zi b)), some (.int (zi p)), some (.int (zi kk)), some (.int (zi zq55)), some (.int (zi (zq55 / 16))), some (.int (zi (zq55 % 16))), some (.int (zi z513)), some (.int (zi lf)), some (.int (zi go))]) (S' := [.int (zi 1), .int (zi (zq55 % 16))]) rfl ?_
                              refine gy_icF rfl (by decide) (by decide) (by omega) (by omega) (by first | (simp [zc]; done) | (simp only [zc]; omega)) ?_
                              refine gz_s 1 (pc' := 280) (L' := [some (.ref m), some (.int (zi b)), some (.int (zi p)), some (.int (zi kk)), some (.int (zi zq55)), some (.int (zi (zq55 / 16))), some (.int (zi (zq55 % 16))), some (.int (zi z513)), some (.int (zi lf)), some (.int (zi go))]) (S' := [.ref m]) rfl ?_
                              refine gs_gtr rfl (by decide) rfl sq544.1 tm rfl rfl rfl (fun c555 ec555 tc555 => ?_)
                              refine gy_s 4 (pc' := 288) (L' := [some (.ref m), some (.int (zi b)), some (.int (zi p)), some (.int (zi kk)), some (.int (zi zq55)), some (.int (zi (zq55 / 16))), some (.int (zi (zq55 % 16))), some (.int (zi z513)), some (.int (zi lf)), some (.int (zi go))]) (S' := [.int (zi z513), .int ((zi p) + (zi kk)), .ref c555]) (L2 := [some (.ref m), some (.int (zi b)), some (.int (zi p)), some (.int (zi kk)), some (.int (zi zq55)), some (.int (zi (zq55 / 16))), some (.int (zi (zq55 % 16))), some (.int (zi z513)), some (.int (zi lf)), some (.int (zi go))]) (S2 := [.int (zi z513), .int (zi (p + kk)), .ref c555]) rfl (by simp only [zi_add, zi_sub, zi_mul, zi_neg, zi_and1, zi_and7, zi_and15, zi_and31, zi_and255]) (by simp only [zi_add, zi_sub, zi_mul, zi_neg, zi_and1, zi_and7, zi_and15, zi_and31, zi_and255]) ?_
                              have hl556 : 12288 ≤ hq544.2.2.2.1 c555 ∧ hq544.2.2.2.1 c555 ≤ 12288 := gJ.rowl (G := gGG) sq544.1 tc555 rfl
                              refine gs_ast rfl (by decide) sq544 tc555 rfl rfl rfl (by decide) (fun _ => rfl) (by omega) (by omega) (fun _ => (by decide : (23999 : Nat) ∈ ([1045, 1046, 1047, 1048, 20999, 23999] : List Nat))) (by omega) (by omega) (fun h557 sh557 eh557 fh557 => ?_)
                              have pr558 := gEl.pt fh557 tc555 (by decide) pr553
                              have s559 := (fh557 m 3 (fun q => absurd (((tm).symm.trans (congrArg ty q.1)).trans tc555) (by decide))).trans s545
                              have s560 := (fh557 m 44 (fun q => absurd (((tm).symm.trans (congrArg ty q.1)).trans tc555) (by decide))).trans s546
                              have s561 := (fh557 m 41 (fun q => absurd (((tm).symm.trans (congrArg ty q.1)).trans tc555) (by decide))).trans s547
                              have s562 := (fh557 m 42 (fun q => absurd (((tm).symm.trans (congrArg ty q.1)).trans tc555) (by decide))).trans s548
                              have s563 := (fh557 m 45 (fun q => absurd (((tm).symm.trans (congrArg ty q.1)).trans tc555) (by decide))).trans s549
                              have s564 := (fh557 m 36 (fun q => absurd (((tm).symm.trans (congrArg ty q.1)).trans tc555) (by decide))).trans s550
                              have s565 := (fh557 m 47 (fun q => absurd (((tm).symm.trans (congrArg ty q.1)).trans tc555) (by decide))).trans s551
                              have s566 := (fh557 m 48 (fun q => absurd (((tm).symm.trans (congrArg ty q.1)).trans tc555) (by decide))).trans s552
                              have s567 := (fh557 m 46 (fun q => absurd (((tm).symm.trans (congrArg ty q.1)).trans tc555) (by decide))).trans efq544_0
                              have s568 := (fh557 m 37 (fun q => absurd (((tm).symm.trans (congrArg ty q.1)).trans tc555) (by decide))).trans ec555
                              refine gy_s 2 (pc' := 5) (L' := [some (.ref m), some (.int (zi b)), some (.int (zi p)), some (.int ((zi kk) + zi 1)), some (.int (zi zq55)), some (.int (zi (zq55 / 16))), some (.int (zi (zq55 % 16))), some (.int (zi z513)), some (.int (zi lf)), some (.int (zi go))]) (S' := []) (L2 := [some (.ref m), some (.int (zi b)), some (.int (zi p)), some (.int (zi (kk + 1))), some (.int (zi zq55)), some (.int (zi (zq55 / 16))), some (.int (zi (zq55 % 16))), some (.int (zi z513)), some (.int (zi lf)), some (.int (zi go))]) (S2 := []) rfl (by simp only [zi_add, zi_sub, zi_mul, zi_neg, zi_and1, zi_and7, zi_and15, zi_and31, zi_and255]) (by simp only [zi_add, zi_sub, zi_mul, zi_neg, zi_and1, zi_and7, zi_and15, zi_and31, zi_and255]) ?_
                              exact gz_wk (ihlp2 h557 (kk + 1) av kv fq544_0 rv (by omega) sh557 (by omega) (by omega) (by omega) (by omega) (by omega) (by omega) (by omega) (by omega) s559 s560 s561 s562 s565 s566 s567 s563 pr558) (gLw.s (gLw.s (gLw.s (gLw.s (gLw.n (gLw.n (gLw.n (gLw.n (gLw.n (gLw.n gLw.z))))))))))
                            · refine gy_ifF rfl (by decide) (by decide) (by omega) hc554 ?_
                              exact gz_end (I := .return_) (len := 1) rfl (Or.inl rfl) ⟨sq544, av, kv, fq544_0, rfl, s551, (by omega), (by omega), s552, (by omega), (by omega), efq544_0, (by omega), (by omega), (by omega), (by omega), (by omega)⟩
                        · refine gy_ifF rfl (by decide) (by decide) (by omega) hc517 ?_
                          refine gz_s 2 (pc' := 171) (L' := [some (.ref m), some (.int (zi b)), some (.int (zi p)), some (.int (zi kk)), some (.int (zi zq55)), some (.int (zi (zq55 / 16))), some (.int (zi (zq55 % 16))), some (.int (zi z513)), some (.int (zi lf)), some (.int (zi go))]) (S' := [.ref m, .int (zi kk)]) rfl ?_
                          refine gs_gtk rfl (by decide) rfl sh516.1 tm rfl rfl lp515k3 ?_
                          by_cases hc569 : (tt : Int) < kk
                          · refine gy_icT (pc' := 243) rfl (by decide) (by decide) (by omega) (by omega) hc569 ?_
                            refine gz_s 3 (pc' := 246) (L' := [some (.ref m), some (.int (zi b)), some (.int (zi p)), some (.int (zi kk)), some (.int (zi zq55)), some (.int (zi (zq55 / 16))), some (.int (zi (zq55 % 16))), some (.int (zi z513)), some (.int (zi lf)), some (.int (zi go))]) (S' := [.ref m, .int (zi kk), .ref m]) rfl ?_
                            refine gs_gtk rfl (by decide) rfl sh516.1 tm rfl rfl lp515k3 ?_
                            refine gy_icF rfl (by decide) (by decide) (by omega) (by omega) (by first | (simp [zc]; done) | (simp only [zc]; omega)) ?_
                            refine gz_s 1 (pc' := 254) (L' := [some (.ref m), some (.int (zi b)), some (.int (zi p)), some (.int (zi kk)), some (.int (zi zq55)), some (.int (zi (zq55 / 16))), some (.int (zi (zq55 % 16))), some (.int (zi z513)), some (.int (zi lf)), some (.int (zi go))]) (S' := [.int (zi (zq55 % 16)), .ref m]) rfl ?_
                            refine gy_ifT (pc' := 261) rfl (by decide) (by decide) (by omega) (by first | (simp [zc]; done) | (simp only [zc]; omega)) ?_
                            refine gz_s 1 (pc' := 262) (L' := [some (.ref m), some (.int (zi b)), some (.int (zi p)), some (.int (zi kk)), some (.int (zi zq55)), some (.int (zi (zq55 / 16))), some (.int (zi (zq55 % 16))), some (.int (zi z513)), some (.int (zi lf)), some (.int (zi go))]) (S' := [.int (zi 0), .ref m]) rfl ?_
                            refine gz_call rfl (by decide) rfl (by decide) (by decide) (gcal_of rfl rfl rfl (Nat.le_of_ble_eq_true rfl) (gJ.recv (G := gGG) sh516.1 tm rfl rfl)) (mm_keep _ sh516.1 m tm 0 (by omega) uv lp515k8 (by omega)) (fun q570 _ wq570 => ?_)
                            obtain ⟨pq570, oq570, hq570⟩ := q570
                            obtain ⟨xq570, fq570_0, gq570, efq570_0, afq570_0, bfq570_0, uq570_0⟩ := wq570
                            refine ⟨_, gq570, ?_⟩
                            show gz gPP gGG gcn _ _ 265 [some (.ref m), some (.int (zi b)), some (.int (zi p)), some (.int (zi kk)), some (.int (zi zq55)), some (.int (zi (zq55 / 16))), some (.int (zi (zq55 % 16))), some (.int (zi z513)), some (.int (zi lf)), some (.int (zi go))] [] hq570 _
                            have sq570 := gSs.tr sh516 xq570 (by decide)
                            have s571 := (xq570.2.2.2.2.2 m 3 (by rw [tm]; decide)).trans lp515k0
                            have s572 := (xq570.2.2.2.2.2 m 44 (by rw [tm]; decide)).trans lp515k1
                            have s573 := (xq570.2.2.2.2.2 m 41 (by rw [tm]; decide)).trans lp515k2
                            have s574 := (xq570.2.2.2.2.2 m 42 (by rw [tm]; decide)).trans lp515k3
                            have s575 := (xq570.2.2.2.2.2 m 45 (by rw [tm]; decide)).trans lp515k4
                            have s576 := (xq570.2.2.2.2.2 m 36 (by rw [tm]; decide)).trans lp515k5
                            have s577 := (xq570.2.2.2.2.2 m 47 (by rw [tm]; decide)).trans lp515k6
                            have s578 := (xq570.2.2.2.2.2 m 48 (by rw [tm]; decide)).trans lp515k7
                            have pr579 := gEl.fr xq570.2 (by decide) (fun _ => rfl) lp515k9
                            refine gz_s 1 (pc' := 266) (L' := [some (.ref m), some (.int (zi b)), some (.int (zi p)), some (.int (zi kk)), some (.int (zi zq55)), some (.int (zi (zq55 / 16))), some (.int (zi (zq55 % 16))), some (.int (zi z513)), some (.int (zi lf)), some (.int (zi go))]) (S' := [.ref m]) rfl ?_
                            refine gs_gtk rfl (by decide) rfl sq570.1 tm rfl rfl efq570_0 ?_
                            by_cases hc580 : (fq570_0 : Int) = 0
                            · refine gy_ifT (pc' := 273) rfl (by decide) (by decide) (by omega) hc580 ?_
                              refine gz_s 2 (pc' := 276) (L' := [some (.ref m), some (.int (zi b)), some (.int (zi p)), some (.int (zi kk)), some (.int (zi zq55)), some (.int (zi (zq55 / 16))), some (.int (zi (zq55 % 16))), some (.int (zi z513)), some (.int (zi lf)), some (.int (zi go))]) (S' := [.int (zi 1), .int (zi (zq55 % 16))]) rfl ?_
                              refine gy_icF rfl (by decide) (by decide) (by omega) (by omega) (by first | (simp [zc]; done) | (simp only [zc]; omega)) ?_
                              refine gz_s 1 (pc' := 280) (L' := [some (.ref m), some (.int (zi b)), some (.int (zi p)), some (.int (zi kk)), some (.int (zi zq55)), some (.int (zi (zq55 / 16))), some (.int (zi (zq55 % 16))), some (.int (zi z513)), some (.int (zi lf)), some (.int (zi go))]) (S' := [.ref m]) rfl ?_
                              refine gs_gtr rfl (by decide) rfl sq570.1 tm rfl rfl rfl (fun c581 ec581 tc581 => ?_)
                              refine gy_s 4 (pc' := 288) (L' := [some (.ref m), some (.int (zi b)), some (.int (zi p)), some (.int (zi kk)), some (.int (zi zq55)), some (.int (zi (zq55 / 16))), some (.int (zi (zq55 % 16))), some (.int (zi z513)), some (.int (zi lf)), some (.int (zi go))]) (S' := [.int (zi z513), .int ((zi p) + (zi kk)), .ref c581]) (L2 := [some (.ref m), some (.int (zi b)), some (.int (zi p)), some (.int (zi kk)), some (.int (zi zq55)), some (.int (zi (zq55 / 16))), some (.int (zi (zq55 % 16))), some (.int (zi z513)), some (.int (zi lf)), some (.int (zi go))]) (S2 := [.int (zi z513), .int (zi (p + kk)), .ref c581]) rfl (by simp only [zi_add, zi_sub, zi_mul, zi_neg, zi_and1, zi_and7, zi_and15, zi_and31, zi_and255]) (by simp only [zi_add, zi_sub, zi_mul, zi_neg, zi_and1, zi_and7, zi_and15, zi_and31, zi_and255]) ?_
                              have hl582 : 12288 ≤ hq570.2.2.2.1 c581 ∧ hq570.2.2.2.1 c581 ≤ 12288 := gJ.rowl (G := gGG) sq570.1 tc581 rfl
                              refine gs_ast rfl (by decide) sq570 tc581 rfl rfl rfl (by decide) (fun _ => rfl) (by omega) (by omega) (fun _ => (by decide : (23999 : Nat) ∈ ([1045, 1046, 1047, 1048, 20999, 23999] : List Nat))) (by omega) (by omega) (fun h583 sh583 eh583 fh583 => ?_)
                              have pr584 := gEl.pt fh583 tc581 (by decide) pr579
                              have s585 := (fh583 m 3 (fun q => absurd (((tm).symm.trans (congrArg ty q.1)).trans tc581) (by decide))).trans s571
                              have s586 := (fh583 m 44 (fun q => absurd (((tm).symm.trans (congrArg ty q.1)).trans tc581) (by decide))).trans s572
                              have s587 := (fh583 m 41 (fun q => absurd (((tm).symm.trans (congrArg ty q.1)).trans tc581) (by decide))).trans s573
                              have s588 := (fh583 m 42 (fun q => absurd (((tm).symm.trans (congrArg ty q.1)).trans tc581) (by decide))).trans s574
                              have s589 := (fh583 m 45 (fun q => absurd (((tm).symm.trans (congrArg ty q.1)).trans tc581) (by decide))).trans s575
                              have s590 := (fh583 m 36 (fun q => absurd (((tm).symm.trans (congrArg ty q.1)).trans tc581) (by decide))).trans s576
                              have s591 := (fh583 m 47 (fun q => absurd (((tm).symm.trans (congrArg ty q.1)).trans tc581) (by decide))).trans s577
                              have s592 := (fh583 m 48 (fun q => absurd (((tm).symm.trans (congrArg ty q.1)).trans tc581) (by decide))).trans s578
                              have s593 := (fh583 m 46 (fun q => absurd (((tm).symm.trans (congrArg ty q.1)).trans tc581) (by decide))).trans efq570_0
                              have s594 := (fh583 m 37 (fun q => absurd (((tm).symm.trans (congrArg ty q.1)).trans tc581) (by decide))).trans ec581
                              refine gy_s 2 (pc' := 5) (L' := [some (.ref m), some (.int (zi b)), some (.int (zi p)), some (.int ((zi kk) + zi 1)), some (.int (zi zq55)), some (.int (zi (zq55 / 16))), some (.int (zi (zq55 % 16))), some (.int (zi z513)), some (.int (zi lf)), some (.int (zi go))]) (S' := []) (L2 := [some (.ref m), some (.int (zi b)), some (.int (zi p)), some (.int (zi (kk + 1))), some (.int (zi zq55)), some (.int (zi (zq55 / 16))), some (.int (zi (zq55 % 16))), some (.int (zi z513)), some (.int (zi lf)), some (.int (zi go))]) (S2 := []) rfl (by simp only [zi_add, zi_sub, zi_mul, zi_neg, zi_and1, zi_and7, zi_and15, zi_and31, zi_and255]) (by simp only [zi_add, zi_sub, zi_mul, zi_neg, zi_and1, zi_and7, zi_and15, zi_and31, zi_and255]) ?_
                              exact gz_wk (ihlp2 h583 (kk + 1) av kv fq570_0 rv (by omega) sh583 (by omega) (by omega) (by omega) (by omega) (by omega) (by omega) (by omega) (by omega) s585 s586 s587 s588 s591 s592 s593 s589 pr584) (gLw.s (gLw.s (gLw.s (gLw.s (gLw.n (gLw.n (gLw.n (gLw.n (gLw.n (gLw.n gLw.z))))))))))
                            · refine gy_ifF rfl (by decide) (by decide) (by omega) hc580 ?_
                              exact gz_end (I := .return_) (len := 1) rfl (Or.inl rfl) ⟨sq570, av, kv, fq570_0, rfl, s577, (by omega), (by omega), s578, (by omega), (by omega), efq570_0, (by omega), (by omega), (by omega), (by omega), (by omega)⟩
                          · refine gy_icF rfl (by decide) (by decide) (by omega) (by omega) hc569 ?_
                            refine gz_s 1 (pc' := 178) (L' := [some (.ref m), some (.int (zi b)), some (.int (zi p)), some (.int (zi kk)), some (.int (zi zq55)), some (.int (zi (zq55 / 16))), some (.int (zi (zq55 % 16))), some (.int (zi z513)), some (.int (zi lf)), some (.int (zi go))]) (S' := [.ref m]) rfl ?_
                            refine gs_gtr rfl (by decide) rfl sh516.1 tm rfl rfl rfl (fun c595 ec595 tc595 => ?_)
                            refine gy_s 3 (pc' := 184) (L' := [some (.ref m), some (.int (zi b)), some (.int (zi p)), some (.int (zi kk)), some (.int (zi zq55)), some (.int (zi (zq55 / 16))), some (.int (zi (zq55 % 16))), some (.int (zi z513)), some (.int (zi lf)), some (.int (zi go))]) (S' := [.int ((zi p) + (zi kk)), .ref c595]) (L2 := [some (.ref m), some (.int (zi b)), some (.int (zi p)), some (.int (zi kk)), some (.int (zi zq55)), some (.int (zi (zq55 / 16))), some (.int (zi (zq55 % 16))), some (.int (zi z513)), some (.int (zi lf)), some (.int (zi go))]) (S2 := [.int (zi (p + kk)), .ref c595]) rfl (by simp only [zi_add, zi_sub, zi_mul, zi_neg, zi_and1, zi_and7, zi_and15, zi_and31, zi_and255]) (by simp only [zi_add, zi_sub, zi_mul, zi_neg, zi_and1, zi_and7, zi_and15, zi_and31, zi_and255]) ?_
                            have hl596 : 12288 ≤ h516.2.2.2.1 c595 ∧ h516.2.2.2.1 c595 ≤ 12288 := gJ.rowl (G := gGG) sh516.1 tc595 rfl
                            refine gs_ald rfl (by decide) sh516.1 tc595 rfl rfl rfl (by decide) (fun _ => rfl) (by omega) (by omega) (fun z597 ez597 az597 bz597 => ?_)
                            by_cases hc598 : (z597 : Int) = 0
                            · refine gy_ifT (pc' := 212) rfl (by decide) (by decide) (by omega) hc598 ?_
                              refine gz_s 1 (pc' := 214) (L' := [some (.ref m), some (.int (zi b)), some (.int (zi p)), some (.int (zi kk)), some (.int (zi zq55)), some (.int (zi (zq55 / 16))), some (.int (zi (zq55 % 16))), some (.int (zi z513)), some (.int (zi lf)), some (.int (zi go))]) (S' := [.int (zi lf)]) rfl ?_
                              by_cases hc599 : (lf : Int) ≤ 0
                              · refine gy_ifT (pc' := 221) rfl (by decide) (by decide) (by omega) hc599 ?_
                                refine gy_s 4 (pc' := 229) (L' := [some (.ref m), some (.int (zi b)), some (.int (zi p)), some (.int (zi kk)), some (.int (zi zq55)), some (.int (zi (zq55 / 16))), some (.int (zi (zq55 % 16))), some (.int (zi z513)), some (.int ((zi lf) + zi (-1))), some (.int (zi 0))]) (S' := [.int (zi 0)]) (L2 := [some (.ref m), some (.int (zi b)), some (.int (zi p)), some (.int (zi kk)), some (.int (zi zq55)), some (.int (zi (zq55 / 16))), some (.int (zi (zq55 % 16))), some (.int (zi z513)), some (.int (zi (lf + (-1)))), some (.int (zi 0))]) (S2 := [.int (zi 0)]) rfl (by simp only [zi_add, zi_sub, zi_mul, zi_neg, zi_and1, zi_and7, zi_and15, zi_and31, zi_and255]) (by simp only [zi_add, zi_sub, zi_mul, zi_neg, zi_and1, zi_and7, zi_and15, zi_and31, zi_and255]) ?_
                                refine gy_ifT (pc' := 238) rfl (by decide) (by decide) (by omega) (by first | (simp [zc]; done) | (simp only [zc]; omega)) ?_
                                refine gz_s 3 (pc' := 164) (L' := [some (.ref m), some (.int (zi b)), some (.int (zi p)), some (.int (zi kk)), some (.int (zi zq55)), some (.int (zi (zq55 / 16))), some (.int (zi (zq55 % 16))), some (.int (zi z513)), some (.int (zi (lf + (-1)))), some (.int (zi 0))]) (S' := []) rfl ?_
                                exact gz_wk (ihlp515 h516 kk (lf + (-1)) 0 av kv uv (by omega) sh516 (by omega) (by omega) (by omega) (by omega) (by omega) (by omega) (by omega) (by omega) (by omega) (by omega) (by omega) lp515k0 lp515k1 lp515k2 lp515k3 lp515k4 lp515k5 lp515k6 lp515k7 lp515k8 lp515k9) (gLw.s (gLw.s (gLw.s (gLw.s (gLw.s (gLw.s (gLw.s (gLw.s (gLw.s (gLw.s gLw.z))))))))))
                              · refine gy_ifF rfl (by decide) (by decide) (by omega) hc599 ?_
                                refine gy_s 5 (pc' := 229) (L' := [some (.ref m), some (.int (zi b)), some (.int (zi p)), some (.int (zi kk)), some (.int (zi zq55)), some (.int (zi (zq55 / 16))), some (.int (zi (zq55 % 16))), some (.int (zi z513)), some (.int ((zi lf) + zi (-1))), some (.int (zi 1))]) (S' := [.int (zi 1)]) (L2 := [some (.ref m), some (.int (zi b)), some (.int (zi p)), some (.int (zi kk)), some (.int (zi zq55)), some (.int (zi (zq55 / 16))), some (.int (zi (zq55 % 16))), some (.int (zi z513)), some (.int (zi (lf + (-1)))), some (.int (zi 1))]) (S2 := [.int (zi 1)]) rfl (by simp only [zi_add, zi_sub, zi_mul, zi_neg, zi_and1, zi_and7, zi_and15, zi_and31, zi_and255]) (by simp only [zi_add, zi_sub, zi_mul, zi_neg, zi_and1, zi_and7, zi_and15, zi_and31, zi_and255]) ?_
                                refine gy_ifF rfl (by decide) (by decide) (by omega) (by first | (simp [zc]; done) | (simp only [zc]; omega)) ?_
                                refine gy_s 6 (pc' := 164) (L' := [some (.ref m), some (.int (zi b)), some (.int (zi p)), some (.int ((zi kk) + (zi 1))), some (.int (zi zq55)), some (.int (zi (zq55 / 16))), some (.int (zi (zq55 % 16))), some (.int (zi z513)), some (.int (zi (lf + (-1)))), some (.int (zi 1))]) (S' := []) (L2 := [some (.ref m), some (.int (zi b)), some (.int (zi p)), some (.int (zi (kk + 1))), some (.int (zi zq55)), some (.int (zi (zq55 / 16))), some (.int (zi (zq55 % 16))), some (.int (zi z513)), some (.int (zi (lf + (-1)))), some (.int (zi 1))]) (S2 := []) rfl (by simp only [zi_add, zi_sub, zi_mul, zi_neg, zi_and1, zi_and7, zi_and15, zi_and31, zi_and255]) (by simp only [zi_add, zi_sub, zi_mul, zi_neg, zi_and1, zi_and7, zi_and15, zi_and31, zi_and255]) ?_
                                exact gz_wk (ihlp515 h516 (kk + 1) (lf + (-1)) 1 av kv uv (by omega) sh516 (by omega) (by omega) (by omega) (by omega) (by omega) (by omega) (by omega) (by omega) (by omega) (by omega) (by omega) lp515k0 lp515k1 lp515k2 lp515k3 lp515k4 lp515k5 lp515k6 lp515k7 lp515k8 lp515k9) (gLw.s (gLw.s (gLw.s (gLw.s (gLw.s (gLw.s (gLw.s (gLw.s (gLw.s (gLw.s gLw.z))))))))))
                            · refine gy_ifF rfl (by decide) (by decide) (by omega) hc598 ?_
                              refine gy_s 4 (pc' := 192) (L' := [some (.ref m), some (.int (zi b)), some (.int (zi p)), some (.int (zi kk)), some (.int (zi zq55)), some (.int (zi (zq55 / 16))), some (.int (zi (zq55 % 16))), some (.int (zi z513)), some (.int (zi lf)), some (.int (zi go))]) (S' := [.int ((zi p) + (zi kk)), .ref m]) (L2 := [some (.ref m), some (.int (zi b)), some (.int (zi p)), some (.int (zi kk)), some (.int (zi zq55)), some (.int (zi (zq55 / 16))), some (.int (zi (zq55 % 16))), some (.int (zi z513)), some (.int (zi lf)), some (.int (zi go))]) (S2 := [.int (zi (p + kk)), .ref m]) rfl (by simp only [zi_add, zi_sub, zi_mul, zi_neg, zi_and1, zi_and7, zi_and15, zi_and31, zi_and255]) (by simp only [zi_add, zi_sub, zi_mul, zi_neg, zi_and1, zi_and7, zi_and15, zi_and31, zi_and255]) ?_
                              refine gz_call rfl (by decide) rfl (by decide) (by decide) (gcal_of rfl rfl rfl (Nat.le_of_ble_eq_true rfl) (gJ.recv (G := gGG) sh516.1 tm rfl rfl)) (mm_grow _ sh516.1 m tm (p + kk) (by omega) av lp515k6 (by omega) kv lp515k7 (by omega) sz lp515k0 (by omega) uv lp515k8 (by omega) lw lp515k1 (by omega) (by omega)) (fun q600 _ wq600 => ?_)
                              obtain ⟨pq600, oq600, hq600⟩ := q600
                              obtain ⟨xq600, fq600_0, fq600_1, fq600_2, gq600, efq600_0, afq600_0, bfq600_0, efq600_1, afq600_1, bfq600_1, efq600_2, afq600_2, bfq600_2, uq600_0, uq600_1, uq600_2⟩ := wq600
                              refine ⟨_, gq600, ?_⟩
                              show gz gPP gGG gcn _ _ 195 [some (.ref m), some (.int (zi b)), some (.int (zi p)), some (.int (zi kk)), some (.int (zi zq55)), some (.int (zi (zq55 / 16))), some (.int (zi (zq55 % 16))), some (.int (zi z513)), some (.int (zi lf)), some (.int (zi go))] [] hq600 _
                              have sq600 := gSs.tr sh516 xq600 (by decide)
                              have s601 := (xq600.2.2.2.2.2 m 3 (by rw [tm]; decide)).trans lp515k0
                              have s602 := (xq600.2.2.2.2.2 m 44 (by rw [tm]; decide)).trans lp515k1
                              have s603 := (xq600.2.2.2.2.2 m 41 (by rw [tm]; decide)).trans lp515k2
                              have s604 := (xq600.2.2.2.2.2 m 42 (by rw [tm]; decide)).trans lp515k3
                              have s605 := (xq600.2.2.2.2.2 m 45 (by rw [tm]; decide)).trans lp515k4
                              have s606 := (xq600.2.2.2.2.2 m 36 (by rw [tm]; decide)).trans lp515k5
                              have s607 := (xq600.2.2.2.2.2 m 37 (by rw [tm]; decide)).trans ec595
                              have pr608 := gEl.fr xq600.2 (by decide) (fun _ => rfl) lp515k9
                              refine gz_s 1 (pc' := 196) (L' := [some (.ref m), some (.int (zi b)), some (.int (zi p)), some (.int (zi kk)), some (.int (zi zq55)), some (.int (zi (zq55 / 16))), some (.int (zi (zq55 % 16))), some (.int (zi z513)), some (.int (zi lf)), some (.int (zi go))]) (S' := [.ref m]) rfl ?_
                              refine gs_gtk rfl (by decide) rfl sq600.1 tm rfl rfl efq600_2 ?_
                              by_cases hc609 : ¬ (fq600_2 : Int) = 0
                              · refine gy_ifT (pc' := 206) rfl (by decide) (by decide) (by omega) hc609 ?_
                                refine gz_s 4 (pc' := 229) (L' := [some (.ref m), some (.int (zi b)), some (.int (zi p)), some (.int (zi kk)), some (.int (zi zq55)), some (.int (zi (zq55 / 16))), some (.int (zi (zq55 % 16))), some (.int (zi z513)), some (.int (zi lf)), some (.int (zi 0))]) (S' := [.int (zi 0)]) rfl ?_
                                refine gy_ifT (pc' := 238) rfl (by decide) (by decide) (by omega) (by first | (simp [zc]; done) | (simp only [zc]; omega)) ?_
                                refine gz_s 3 (pc' := 164) (L' := [some (.ref m), some (.int (zi b)), some (.int (zi p)), some (.int (zi kk)), some (.int (zi zq55)), some (.int (zi (zq55 / 16))), some (.int (zi (zq55 % 16))), some (.int (zi z513)), some (.int (zi lf)), some (.int (zi 0))]) (S' := []) rfl ?_
                                exact gz_wk (ihlp515 hq600 kk lf 0 fq600_0 fq600_1 fq600_2 (by omega) sq600 (by omega) (by omega) (by omega) (by omega) (by omega) (by omega) (by omega) (by omega) (by omega) (by omega) (by omega) s601 s602 s603 s604 s605 s606 efq600_0 efq600_1 efq600_2 pr608) (gLw.s (gLw.s (gLw.s (gLw.s (gLw.s (gLw.s (gLw.s (gLw.s (gLw.s (gLw.s gLw.z))))))))))
                              · refine gy_ifF rfl (by decide) (by decide) (by omega) hc609 ?_
                                refine gz_s 5 (pc' := 229) (L' := [some (.ref m), some (.int (zi b)), some (.int (zi p)), some (.int (zi kk)), some (.int (zi zq55)), some (.int (zi (zq55 / 16))), some (.int (zi (zq55 % 16))), some (.int (zi z513)), some (.int (zi lf)), some (.int (zi 1))]) (S' := [.int (zi 1)]) rfl ?_
                                refine gy_ifF rfl (by decide) (by decide) (by omega) (by first | (simp [zc]; done) | (simp only [zc]; omega)) ?_
                                refine gy_s 6 (pc' := 164) (L' := [some (.ref m), some (.int (zi b)), some (.int (zi p)), some (.int ((zi kk) + (zi 1))), some (.int (zi zq55)), some (.int (zi (zq55 / 16))), some (.int (zi (zq55 % 16))), some (.int (zi z513)), some (.int (zi lf)), some (.int (zi 1))]) (S' := []) (L2 := [some (.ref m), some (.int (zi b)), some (.int (zi p)), some (.int (zi (kk + 1))), some (.int (zi zq55)), some (.int (zi (zq55 / 16))), some (.int (zi (zq55 % 16))), some (.int (zi z513)), some (.int (zi lf)), some (.int (zi 1))]) (S2 := []) rfl (by simp only [zi_add, zi_sub, zi_mul, zi_neg, zi_and1, zi_and7, zi_and15, zi_and31, zi_and255]) (by simp only [zi_add, zi_sub, zi_mul, zi_neg, zi_and1, zi_and7, zi_and15, zi_and31, zi_and255]) ?_
                                exact gz_wk (ihlp515 hq600 (kk + 1) lf 1 fq600_0 fq600_1 fq600_2 (by omega) sq600 (by omega) (by omega) (by omega) (by omega) (by omega) (by omega) (by omega) (by omega) (by omega) (by omega) (by omega) s601 s602 s603 s604 s605 s606 efq600_0 efq600_1 efq600_2 pr608) (gLw.s (gLw.s (gLw.s (gLw.s (gLw.s (gLw.s (gLw.s (gLw.s (gLw.s (gLw.s gLw.z))))))))))
                    exact gz_wk (lp515 _ hq312 k (zq55 / 16) 0 fq312_0 fq312_1 fq312_2 (Nat.lt_succ_self _) sq312 (by omega) (by omega) (by omega) (by omega) (by omega) (by omega) (by omega) (by omega) (by omega) (by omega) (by omega) s313 s314 s315 s316 s317 s318 efq312_0 efq312_1 efq312_2 pr319) (gLw.s (gLw.s (gLw.s (gLw.s (gLw.s (gLw.s (gLw.s (gLw.s (gLw.s (gLw.s gLw.z))))))))))
                  · refine gy_ifF rfl (by decide) (by decide) (by omega) hc514 ?_
                    refine gz_s 3 (pc' := 164) (L' := [some (.ref m), some (.int (zi b)), some (.int (zi p)), some (.int (zi k)), some (.int (zi zq55)), some (.int (zi (zq55 / 16))), some (.int (zi (zq55 % 16))), some (.int (zi z513)), some (.int (zi (zq55 / 16))), some (.int (zi 1))]) (S' := []) rfl ?_
                    have lp610 : ∀ (fu : Nat) (h611 : gH) (kk : Int) (lf : Int) (go : Int) (av : Int) (kv : Int) (uv : Int), (2 * (200 - kk) + go).toNat < fu → gSs rT 1027 ty [1045, 1046, 1047, 1048, 20999, 23999] h h611 → (1 ≤ kk ∧ kk ≤ 64) → ((-1) ≤ lf ∧ lf ≤ 15) → (0 ≤ go ∧ go ≤ 1) → (0 ≤ av ∧ av ≤ 2001) → (0 ≤ kv ∧ kv ≤ 7) → (0 ≤ uv ∧ uv ≤ 1) → (kv = 0 ∨ av < sz) → (a0 ≤ av) → (uv = 0 → u0 = 0) → (k ≤ kk) → (go = 1 → 0 ≤ lf) → h611.2.2.2.2 m 3 = .int (zi sz) → h611.2.2.2.2 m 44 = .int (zi lw) → h611.2.2.2.2 m 41 = .int (zi fr) → h611.2.2.2.2 m 42 = .int (zi tt) → h611.2.2.2.2 m 45 = .int (zi rv) → h611.2.2.2.2 m 36 = .ref c51 → h611.2.2.2.2 m 47 = .int (zi av) → h611.2.2.2.2 m 48 = .int (zi kv) → h611.2.2.2.2 m 46 = .int (zi uv) → gEl ty 22 b 4 7 h611 → gz gPP gGG gcn (d + 5) gt161 164 [some (.ref m), some (.int (zi b)), some (.int (zi p)), some (.int (zi kk)), some (.int (zi zq55)), some (.int (zi (zq55 / 16))), some (.int (zi (zq55 % 16))), some (.int (zi z513)), some (.int (zi lf)), some (.int (zi go))] [] h611 (fun q _ => gSs rT 1027 ty [1045, 1046, 1047, 1048, 20999, 23999] h q.2.2 ∧ ∃ a1 k1 u1 : Int, gfin gt161 q.1 q.2.1 = some none ∧ q.2.2.2.2.2.2 m 47 = .int (zi a1) ∧ 0 ≤ a1 ∧ a1 ≤ 2001 ∧ q.2.2.2.2.2.2 m 48 = .int (zi k1) ∧ 0 ≤ k1 ∧ k1 ≤ 7 ∧ q.2.2.2.2.2.2 m 46 = .int (zi u1) ∧ 0 ≤ u1 ∧ u1 ≤ 1 ∧ (k1 = 0 ∨ a1 < sz) ∧ (a0 ≤ a1) ∧ (u1 = 0 → u0 = 0)) := by
                      intro fu
                      induction fu with
                      | zero => intro h611 kk lf go av kv uv hm; exact absurd hm (Nat.not_lt_zero _)
                      | succ fu ihlp610 =>
                        intro h611 kk lf go av kv uv lp610m sh611 lp610f0 lp610f1 lp610f2 lp610f3 lp610f4 lp610f5 lp610f6 lp610f7 lp610f8 lp610f9 lp610f10 lp610k0 lp610k1 lp610k2 lp610k3 lp610k4 lp610k5 lp610k6 lp610k7 lp610k8 lp610k9
                        refine gz_s 1 (pc' := 166) (L' := [some (.ref m), some (.int (zi b)), some (.int (zi p)), some (.int (zi kk)), some (.int (zi zq55)), some (.int (zi (zq55 / 16))), some (.int (zi (zq55 % 16))), some (.int (zi z513)), some (.int (zi lf)), some (.int (zi go))]) (S' := [.int (zi go)]) rfl ?_
                        by_cases hc612 : (go : Int) = 0
                        · refine gy_ifT (pc' := 243) rfl (by decide) (by decide) (by omega) hc612 ?_
                          refine gz_s 3 (pc' := 246) (L' := [some (.ref m), some (.int (zi b)), some (.int (zi p)), some (.int (zi kk)), some (.int (zi zq55)), some (.int (zi (zq55 / 16))), some (.int (zi (zq55 % 16))), some (.int (zi z513)), some (.int (zi lf)), some (.int (zi go))]) (S' := [.ref m, .int (zi kk), .ref m]) rfl ?_
                          refine gs_gtk rfl (by decide) rfl sh611.1 tm rfl rfl lp610k3 ?_
                          by_cases hc613 : (kk : Int) ≤ tt
                          · refine gy_icT (pc' := 257) rfl (by decide) (by decide) (by omega) (by omega) hc613 ?_
                            refine gz_s 2 (pc' := 262) (L' := [some (.ref m), some (.int (zi b)), some (.int (zi p)), some (.int (zi kk)), some (.int (zi zq55)), some (.int (zi (zq55 / 16))), some (.int (zi (zq55 % 16))), some (.int (zi z513)), some (.int (zi lf)), some (.int (zi go))]) (S' := [.int (zi 1), .ref m]) rfl ?_
                            refine gz_call rfl (by decide) rfl (by decide) (by decide) (gcal_of rfl rfl rfl (Nat.le_of_ble_eq_true rfl) (gJ.recv (G := gGG) sh611.1 tm rfl rfl)) (mm_keep _ sh611.1 m tm 1 (by omega) uv lp610k8 (by omega)) (fun q614 _ wq614 => ?_)
                            obtain ⟨pq614, oq614, hq614⟩ := q614
                            obtain ⟨xq614, fq614_0, gq614, efq614_0, afq614_0, bfq614_0, uq614_0⟩ := wq614
                            refine ⟨_, gq614, ?_⟩
                            show gz gPP gGG gcn _ _ 265 [some (.ref m), some (.int (zi b)), some (.int (zi p)), some (.int (zi kk)), some (.int (zi zq55)), some (.int (zi (zq55 / 16))), some (.int (zi (zq55 % 16))), some (.int (zi z513)), some (.int (zi lf)), some (.int (zi go))] [] hq614 _
                            have sq614 := gSs.tr sh611 xq614 (by decide)
                            have s615 := (xq614.2.2.2.2.2 m 3 (by rw [tm]; decide)).trans lp610k0
                            have s616 := (xq614.2.2.2.2.2 m 44 (by rw [tm]; decide)).trans lp610k1
                            have s617 := (xq614.2.2.2.2.2 m 41 (by rw [tm]; decide)).trans lp610k2
                            have s618 := (xq614.2.2.2.2.2 m 42 (by rw [tm]; decide)).trans lp610k3
                            have s619 := (xq614.2.2.2.2.2 m 45 (by rw [tm]; decide)).trans lp610k4
                            have s620 := (xq614.2.2.2.2.2 m 36 (by rw [tm]; decide)).trans lp610k5
                            have s621 := (xq614.2.2.2.2.2 m 47 (by rw [tm]; decide)).trans lp610k6
                            have s622 := (xq614.2.2.2.2.2 m 48 (by rw [tm]; decide)).trans lp610k7
                            have pr623 := gEl.fr xq614.2 (by decide) (fun _ => rfl) lp610k9
                            refine gz_s 1 (pc' := 266) (L' := [some (.ref m), some (.int (zi b)), some (.int (zi p)), some (.int (zi kk)), some (.int (zi zq55)), some (.int (zi (zq55 / 16))), some (.int (zi (zq55 % 16))), some (.int (zi z513)), some (.int (zi lf)), some (.int (zi go))]) (S' := [.ref m]) rfl ?_
                            refine gs_gtk rfl (by decide) rfl sq614.1 tm rfl rfl efq614_0 ?_
                            by_cases hc624 : (fq614_0 : Int) = 0
                            · refine gy_ifT (pc' := 273) rfl (by decide) (by decide) (by omega) hc624 ?_
                              refine gz_s 2 (pc' := 276) (L' := [some (.ref m), some (.int (zi b)), some (.int (zi p)), some (.int (zi kk)), some (.int (zi zq55)), some (.int (zi (zq55 / 16))), some (.int (zi (zq55 % 16))), some (.int (zi z513)), some (.int (zi lf)), some (.int (zi go))]) (S' := [.int (zi 1), .int (zi (zq55 % 16))]) rfl ?_
                              refine gy_icF rfl (by decide) (by decide) (by omega) (by omega) (by first | (simp [zc]; done) | (simp only [zc]; omega)) ?_
                              refine gz_s 1 (pc' := 280) (L' := [some (.ref m), some (.int (zi b)), some (.int (zi p)), some (.int (zi kk)), some (.int (zi zq55)), some (.int (zi (zq55 / 16))), some (.int (zi (zq55 % 16))), some (.int (zi z513)), some (.int (zi lf)), some (.int (zi go))]) (S' := [.ref m]) rfl ?_
                              refine gs_gtr rfl (by decide) rfl sq614.1 tm rfl rfl rfl (fun c625 ec625 tc625 => ?_)
                              refine gy_s 4 (pc' := 288) (L' := [some (.ref m), some (.int (zi b)), some (.int (zi p)), some (.int (zi kk)), some (.int (zi zq55)), some (.int (zi (zq55 / 16))), some (.int (zi (zq55 % 16))), some (.int (zi z513)), some (.int (zi lf)), some (.int (zi go))]) (S' := [.int (zi z513), .int ((zi p) + (zi kk)), .ref c625]) (L2 := [some (.ref m), some (.int (zi b)), some (.int (zi p)), some (.int (zi kk)), some (.int (zi zq55)), some (.int (zi (zq55 / 16))), some (.int (zi (zq55 % 16))), some (.int (zi z513)), some (.int (zi lf)), some (.int (zi go))]) (S2 := [.int (zi z513), .int (zi (p + kk)), .ref c625]) rfl (by simp only [zi_add, zi_sub, zi_mul, zi_neg, zi_and1, zi_and7, zi_and15, zi_and31, zi_and255]) (by simp only [zi_add, zi_sub, zi_mul, zi_neg, zi_and1, zi_and7, zi_and15, zi_and31, zi_and255]) ?_
                              have hl626 : 12288 ≤ hq614.2.2.2.1 c625 ∧ hq614.2.2.2.1 c625 ≤ 12288 := gJ.rowl (G := gGG) sq614.1 tc625 rfl
                              refine gs_ast rfl (by decide) sq614 tc625 rfl rfl rfl (by decide) (fun _ => rfl) (by omega) (by omega) (fun _ => (by decide : (23999 : Nat) ∈ ([1045, 1046, 1047, 1048, 20999, 23999] : List Nat))) (by omega) (by omega) (fun h627 sh627 eh627 fh627 => ?_)
                              have pr628 := gEl.pt fh627 tc625 (by decide) pr623
                              have s629 := (fh627 m 3 (fun q => absurd (((tm).symm.trans (congrArg ty q.1)).trans tc625) (by decide))).trans s615
                              have s630 := (fh627 m 44 (fun q => absurd (((tm).symm.trans (congrArg ty q.1)).trans tc625) (by decide))).trans s616
                              have s631 := (fh627 m 41 (fun q => absurd (((tm).symm.trans (congrArg ty q.1)).trans tc625) (by decide))).trans s617
                              have s632 := (fh627 m 42 (fun q => absurd (((tm).symm.trans (congrArg ty q.1)).trans tc625) (by decide))).trans s618
                              have s633 := (fh627 m 45 (fun q => absurd (((tm).symm.trans (congrArg ty q.1)).trans tc625) (by decide))).trans s619
                              have s634 := (fh627 m 36 (fun q => absurd (((tm).symm.trans (congrArg ty q.1)).trans tc625) (by decide))).trans s620
                              have s635 := (fh627 m 47 (fun q => absurd (((tm).symm.trans (congrArg ty q.1)).trans tc625) (by decide))).trans s621
                              have s636 := (fh627 m 48 (fun q => absurd (((tm).symm.trans (congrArg ty q.1)).trans tc625) (by decide))).trans s622
                              have s637 := (fh627 m 46 (fun q => absurd (((tm).symm.trans (congrArg ty q.1)).trans tc625) (by decide))).trans efq614_0
                              have s638 := (fh627 m 37 (fun q => absurd (((tm).symm.trans (congrArg ty q.1)).trans tc625) (by decide))).trans ec625
                              refine gy_s 2 (pc' := 5) (L' := [some (.ref m), some (.int (zi b)), some (.int (zi p)), some (.int ((zi kk) + zi 1)), some (.int (zi zq55)), some (.int (zi (zq55 / 16))), some (.int (zi (zq55 % 16))), some (.int (zi z513)), some (.int (zi lf)), some (.int (zi go))]) (S' := []) (L2 := [some (.ref m), some (.int (zi b)), some (.int (zi p)), some (.int (zi (kk + 1))), some (.int (zi zq55)), some (.int (zi (zq55 / 16))), some (.int (zi (zq55 % 16))), some (.int (zi z513)), some (.int (zi lf)), some (.int (zi go))]) (S2 := []) rfl (by simp only [zi_add, zi_sub, zi_mul, zi_neg, zi_and1, zi_and7, zi_and15, zi_and31, zi_and255]) (by simp only [zi_add, zi_sub, zi_mul, zi_neg, zi_and1, zi_and7, zi_and15, zi_and31, zi_and255]) ?_
                              exact gz_wk (ihlp2 h627 (kk + 1) av kv fq614_0 rv (by omega) sh627 (by omega) (by omega) (by omega) (by omega) (by omega) (by omega) (by omega) (by omega) s629 s630 s631 s632 s635 s636 s637 s633 pr628) (gLw.s (gLw.s (gLw.s (gLw.s (gLw.n (gLw.n (gLw.n (gLw.n (gLw.n (gLw.n gLw.z))))))))))
                            · refine gy_ifF rfl (by decide) (by decide) (by omega) hc624 ?_
                              exact gz_end (I := .return_) (len := 1) rfl (Or.inl rfl) ⟨sq614, av, kv, fq614_0, rfl, s621, (by omega), (by omega), s622, (by omega), (by omega), efq614_0, (by omega), (by omega), (by omega), (by omega), (by omega)⟩
                          · refine gy_icF rfl (by decide) (by decide) (by omega) (by omega) hc613 ?_
                            refine gz_s 1 (pc' := 254) (L' := [some (.ref m), some (.int (zi b)), some (.int (zi p)), some (.int (zi kk)), some (.int (zi zq55)), some (.int (zi (zq55 / 16))), some (.int (zi (zq55 % 16))), some (.int (zi z513)), some (.int (zi lf)), some (.int (zi go))]) (S' := [.int (zi (zq55 % 16)), .ref m]) rfl ?_
                            refine gy_ifT (pc' := 261) rfl (by decide) (by decide) (by omega) (by first | (simp [zc]; done) | (simp only [zc]; omega)) ?_
                            refine gz_s 1 (pc' := 262) (L' := [some (.ref m), some (.int (zi b)), some (.int (zi p)), some (.int (zi kk)), some (.int (zi zq55)), some (.int (zi (zq55 / 16))), some (.int (zi (zq55 % 16))), some (.int (zi z513)), some (.int (zi lf)), some (.int (zi go))]) (S' := [.int (zi 0), .ref m]) rfl ?_
                            refine gz_call rfl (by decide) rfl (by decide) (by decide) (gcal_of rfl rfl rfl (Nat.le_of_ble_eq_true rfl) (gJ.recv (G := gGG) sh611.1 tm rfl rfl)) (mm_keep _ sh611.1 m tm 0 (by omega) uv lp610k8 (by omega)) (fun q639 _ wq639 => ?_)
                            obtain ⟨pq639, oq639, hq639⟩ := q639
                            obtain ⟨xq639, fq639_0, gq639, efq639_0, afq639_0, bfq639_0, uq639_0⟩ := wq639
                            refine ⟨_, gq639, ?_⟩
                            show gz gPP gGG gcn _ _ 265 [some (.ref m), some (.int (zi b)), some (.int (zi p)), some (.int (zi kk)), some (.int (zi zq55)), some (.int (zi (zq55 / 16))), some (.int (zi (zq55 % 16))), some (.int (zi z513)), some (.int (zi lf)), some (.int (zi go))] [] hq639 _
                            have sq639 := gSs.tr sh611 xq639 (by decide)
                            have s640 := (xq639.2.2.2.2.2 m 3 (by rw [tm]; decide)).trans lp610k0
                            have s641 := (xq639.2.2.2.2.2 m 44 (by rw [tm]; decide)).trans lp610k1
                            have s642 := (xq639.2.2.2.2.2 m 41 (by rw [tm]; decide)).trans lp610k2
                            have s643 := (xq639.2.2.2.2.2 m 42 (by rw [tm]; decide)).trans lp610k3
                            have s644 := (xq639.2.2.2.2.2 m 45 (by rw [tm]; decide)).trans lp610k4
                            have s645 := (xq639.2.2.2.2.2 m 36 (by rw [tm]; decide)).trans lp610k5
                            have s646 := (xq639.2.2.2.2.2 m 47 (by rw [tm]; decide)).trans lp610k6
                            have s647 := (xq639.2.2.2.2.2 m 48 (by rw [tm]; decide)).trans lp610k7
                            have pr648 := gEl.fr xq639.2 (by decide) (fun _ => rfl) lp610k9
                            refine gz_s 1 (pc' := 266) (L' := [some (.ref m), some (.int (zi b)), some (.int (zi p)), some (.int (zi kk)), some (.int (zi zq55)), some (.int (zi (zq55 / 16))), some (.int (zi (zq55 % 16))), some (.int (zi z513)), some (.int (zi lf)), some (.int (zi go))]) (S' := [.ref m]) rfl ?_
                            refine gs_gtk rfl (by decide) rfl sq639.1 tm rfl rfl efq639_0 ?_
                            by_cases hc649 : (fq639_0 : Int) = 0
                            · refine gy_ifT (pc' := 273) rfl (by decide) (by decide) (by omega) hc649 ?_
                              refine gz_s 2 (pc' := 276) (L' := [some (.ref m), some (.int (zi b)), some (.int (zi p)), some (.int (zi kk)), some (.int (zi zq55)), some (.int (zi (zq55 / 16))), some (.int (zi (zq55 % 16))), some (.int (zi z513)), some (.int (zi lf)), some (.int (zi go))]) (S' := [.int (zi 1), .int (zi (zq55 % 16))]) rfl ?_
                              refine gy_icF rfl (by decide) (by decide) (by omega) (by omega) (by first | (simp [zc]; done) | (simp only [zc]; omega)) ?_
                              refine gz_s 1 (pc' := 280) (L' := [some (.ref m), some (.int (zi b)), some (.int (zi p)), some (.int (zi kk)), some (.int (zi zq55)), some (.int (zi (zq55 / 16))), some (.int (zi (zq55 % 16))), some (.int (zi z513)), some (.int (zi lf)), some (.int (zi go))]) (S' := [.ref m]) rfl ?_
                              refine gs_gtr rfl (by decide) rfl sq639.1 tm rfl rfl rfl (fun c650 ec650 tc650 => ?_)
                              refine gy_s 4 (pc' := 288) (L' := [some (.ref m), some (.int (zi b)), some (.int (zi p)), some (.int (zi kk)), some (.int (zi zq55)), some (.int (zi (zq55 / 16))), some (.int (zi (zq55 % 16))), some (.int (zi z513)), some (.int (zi lf)), some (.int (zi go))]) (S' := [.int (zi z513), .int ((zi p) + (zi kk)), .ref c650]) (L2 := [some (.ref m), some (.int (zi b)), some (.int (zi p)), some (.int (zi kk)), some (.int (zi zq55)), some (.int (zi (zq55 / 16))), some (.int (zi (zq55 % 16))), some (.int (zi z513)), some (.int (zi lf)), some (.int (zi go))]) (S2 := [.int (zi z513), .int (zi (p + kk)), .ref c650]) rfl (by simp only [zi_add, zi_sub, zi_mul, zi_neg, zi_and1, zi_and7, zi_and15, zi_and31, zi_and255]) (by simp only [zi_add, zi_sub, zi_mul, zi_neg, zi_and1, zi_and7, zi_and15, zi_and31, zi_and255]) ?_
                              have hl651 : 12288 ≤ hq639.2.2.2.1 c650 ∧ hq639.2.2.2.1 c650 ≤ 12288 := gJ.rowl (G := gGG) sq639.1 tc650 rfl
                              refine gs_ast rfl (by decide) sq639 tc650 rfl rfl rfl (by decide) (fun _ => rfl) (by omega) (by omega) (fun _ => (by decide : (23999 : Nat) ∈ ([1045, 1046, 1047, 1048, 20999, 23999] : List Nat))) (by omega) (by omega) (fun h652 sh652 eh652 fh652 => ?_)
                              have pr653 := gEl.pt fh652 tc650 (by decide) pr648
                              have s654 := (fh652 m 3 (fun q => absurd (((tm).symm.trans (congrArg ty q.1)).trans tc650) (by decide))).trans s640
                              have s655 := (fh652 m 44 (fun q => absurd (((tm).symm.trans (congrArg ty q.1)).trans tc650) (by decide))).trans s641
                              have s656 := (fh652 m 41 (fun q => absurd (((tm).symm.trans (congrArg ty q.1)).trans tc650) (by decide))).trans s642
                              have s657 := (fh652 m 42 (fun q => absurd (((tm).symm.trans (congrArg ty q.1)).trans tc650) (by decide))).trans s643
                              have s658 := (fh652 m 45 (fun q => absurd (((tm).symm.trans (congrArg ty q.1)).trans tc650) (by decide))).trans s644
                              have s659 := (fh652 m 36 (fun q => absurd (((tm).symm.trans (congrArg ty q.1)).trans tc650) (by decide))).trans s645
                              have s660 := (fh652 m 47 (fun q => absurd (((tm).symm.trans (congrArg ty q.1)).trans tc650) (by decide))).trans s646
                              have s661 := (fh652 m 48 (fun q => absurd (((tm).symm.trans (congrArg ty q.1)).trans tc650) (by decide))).trans s647
                              have s662 := (fh652 m 46 (fun q => absurd (((tm).symm.trans (congrArg ty q.1)).trans tc650) (by decide))).trans efq639_0
                              have s663 := (fh652 m 37 (fun q => absurd (((tm).symm.trans (congrArg ty q.1)).trans tc650) (by decide))).trans ec650
                              refine gy_s 2 (pc' := 5) (L' := [some (.ref m), some (.int (zi b)), some (.int (zi p)), some (.int ((zi kk) + zi 1)), some (.int (zi zq55)), some (.int (zi (zq55 / 16))), some (.int (zi (zq55 % 16))), some (.int (zi z513)), some (.int (zi lf)), some (.int (zi go))]) (S' := []) (L2 := [some (.ref m), some (.int (zi b)), some (.int (zi p)), some (.int (zi (kk + 1))), some (.int (zi zq55)), some (.int (zi (zq55 / 16))), some (.int (zi (zq55 % 16))), some (.int (zi z513)), some (.int (zi lf)), some (.int (zi go))]) (S2 := []) rfl (by simp only [zi_add, zi_sub, zi_mul, zi_neg, zi_and1, zi_and7, zi_and15, zi_and31, zi_and255]) (by simp only [zi_add, zi_sub, zi_mul, zi_neg, zi_and1, zi_and7, zi_and15, zi_and31, zi_and255]) ?_
                              exact gz_wk (ihlp2 h652 (kk + 1) av kv fq639_0 rv (by omega) sh652 (by omega) (by omega) (by omega) (by omega) (by omega) (by omega) (by omega) (by omega) s654 s655 s656 s657 s660 s661 s662 s658 pr653) (gLw.s (gLw.s (gLw.s (gLw.s (gLw.n (gLw.n (gLw.n (gLw.n (gLw.n (gLw.n gLw.z))))))))))
                            · refine gy_ifF rfl (by decide) (by decide) (by omega) hc649 ?_
                              exact gz_end (I := .return_) (len := 1) rfl (Or.inl rfl) ⟨sq639, av, kv, fq639_0, rfl, s646, (by omega), (by omega), s647, (by omega), (by omega), efq639_0, (by omega), (by omega), (by omega), (by omega), (by omega)⟩
                        · refine gy_ifF rfl (by decide) (by decide) (by omega) hc612 ?_
                          refine gz_s 2 (pc' := 171) (L' := [some (.ref m), some (.int (zi b)), some (.int (zi p)), some (.int (zi kk)), some (.int (zi zq55)), some (.int (zi (zq55 / 16))), some (.int (zi (zq55 % 16))), some (.int (zi z513)), some (.int (zi lf)), some (.int (zi go))]) (S' := [.ref m, .int (zi kk)]) rfl ?_
                          refine gs_gtk rfl (by decide) rfl sh611.1 tm rfl rfl lp610k3 ?_
                          by_cases hc664 : (tt : Int) < kk
                          · refine gy_icT (pc' := 243) rfl (by decide) (by decide) (by omega) (by omega) hc664 ?_
                            refine gz_s 3 (pc' := 246) (L' := [some (.ref m), some (.int (zi b)), some (.int (zi p)), some (.int (zi kk)), some (.int (zi zq55)), some (.int (zi (zq55 / 16))), some (.int (zi (zq55 % 16))), some (.int (zi z513)), some (.int (zi lf)), some (.int (zi go))]) (S' := [.ref m, .int (zi kk), .ref m]) rfl ?_
                            refine gs_gtk rfl (by decide) rfl sh611.1 tm rfl rfl lp610k3 ?_
                            refine gy_icF rfl (by decide) (by decide) (by omega) (by omega) (by first | (simp [zc]; done) | (simp only [zc]; omega)) ?_
                            refine gz_s 1 (pc' := 254) (L' := [some (.ref m), some (.int (zi b)), some (.int (zi p)), some (.int (zi kk)), some (.int (zi zq55)), some (.int (zi (zq55 / 16))), some (.int (zi (zq55 % 16))), some (.int (zi z513)), some (.int (zi lf)), some (.int (zi go))]) (S' := [.int (zi (zq55 % 16)), .ref m]) rfl ?_
                            refine gy_ifT (pc' := 261) rfl (by decide) (by decide) (by omega) (by first | (simp [zc]; done) | (simp only [zc]; omega)) ?_
                            refine gz_s 1 (pc' := 262) (L' := [some (.ref m), some (.int (zi b)), some (.int (zi p)), some (.int (zi kk)), some (.int (zi zq55)), some (.int (zi (zq55 / 16))), some (.int (zi (zq55 % 16))), some (.int (zi z513)), some (.int (zi lf)), some (.int (zi go))]) (S' := [.int (zi 0), .ref m]) rfl ?_
                            refine gz_call rfl (by decide) rfl (by decide) (by decide) (gcal_of rfl rfl rfl (Nat.le_of_ble_eq_true rfl) (gJ.recv (G := gGG) sh611.1 tm rfl rfl)) (mm_keep _ sh611.1 m tm 0 (by omega) uv lp610k8 (by omega)) (fun q665 _ wq665 => ?_)
                            obtain ⟨pq665, oq665, hq665⟩ := q665
                            obtain ⟨xq665, fq665_0, gq665, efq665_0, afq665_0, bfq665_0, uq665_0⟩ := wq665
                            refine ⟨_, gq665, ?_⟩
                            show gz gPP gGG gcn _ _ 265 [some (.ref m), some (.int (zi b)), some (.int (zi p)), some (.int (zi kk)), some (.int (zi zq55)), some (.int (zi (zq55 / 16))), some (.int (zi (zq55 % 16))), some (.int (zi z513)), some (.int (zi lf)), some (.int (zi go))] [] hq665 _
                            have sq665 := gSs.tr sh611 xq665 (by decide)
                            have s666 := (xq665.2.2.2.2.2 m 3 (by rw [tm]; decide)).trans lp610k0
                            have s667 := (xq665.2.2.2.2.2 m 44 (by rw [tm]; decide)).trans lp610k1
                            have s668 := (xq665.2.2.2.2.2 m 41 (by rw [tm]; decide)).trans lp610k2
                            have s669 := (xq665.2.2.2.2.2 m 42 (by rw [tm]; decide)).trans lp610k3
                            have s670 := (xq665.2.2.2.2.2 m 45 (by rw [tm]; decide)).trans lp610k4
                            have s671 := (xq665.2.2.2.2.2 m 36 (by rw [tm]; decide)).trans lp610k5
                            have s672 := (xq665.2.2.2.2.2 m 47 (by rw [tm]; decide)).trans lp610k6
                            have s673 := (xq665.2.2.2.2.2 m 48 (by rw [tm]; decide)).trans lp610k7
                            have pr674 := gEl.fr xq665.2 (by decide) (fun _ => rfl) lp610k9
                            refine gz_s 1 (pc' := 266) (L' := [some (.ref m), some (.int (zi b)), some (.int (zi p)), some (.int (zi kk)), some (.int (zi zq55)), some (.int (zi (zq55 / 16))), some (.int (zi (zq55 % 16))), some (.int (zi z513)), some (.int (zi lf)), some (.int (zi go))]) (S' := [.ref m]) rfl ?_
                            refine gs_gtk rfl (by decide) rfl sq665.1 tm rfl rfl efq665_0 ?_
                            by_cases hc675 : (fq665_0 : Int) = 0
                            · refine gy_ifT (pc' := 273) rfl (by decide) (by decide) (by omega) hc675 ?_
                              refine gz_s 2 (pc' := 276) (L' := [some (.ref m), some (.int (zi b)), some (.int (zi p)), some (.int (zi kk)), some (.int (zi zq55)), some (.int (zi (zq55 / 16))), some (.int (zi (zq55 % 16))), some (.int (zi z513)), some (.int (zi lf)), some (.int (zi go))]) (S' := [.int (zi 1), .int (zi (zq55 % 16))]) rfl ?_
                              refine gy_icF rfl (by decide) (by decide) (by omega) (by omega) (by first | (simp [zc]; done) | (simp only [zc]; omega)) ?_
                              refine gz_s 1 (pc' := 280) (L' := [some (.ref m), some (.int (zi b)), some (.int (zi p)), some (.int (zi kk)), some (.int (zi zq55)), some (.int (zi (zq55 / 16))), some (.int (zi (zq55 % 16))), some (.int (zi z513)), some (.int (zi lf)), some (.int (zi go))]) (S' := [.ref m]) rfl ?_
                              refine gs_gtr rfl (by decide) rfl sq665.1 tm rfl rfl rfl (fun c676 ec676 tc676 => ?_)
                              refine gy_s 4 (pc' := 288) (L' := [some (.ref m), some (.int (zi b)), some (.int (zi p)), some (.int (zi kk)), some (.int (zi zq55)), some (.int (zi (zq55 / 16))), some (.int (zi (zq55 % 16))), some (.int (zi z513)), some (.int (zi lf)), some (.int (zi go))]) (S' := [.int (zi z513), .int ((zi p) + (zi kk)), .ref c676]) (L2 := [some (.ref m), some (.int (zi b)), some (.int (zi p)), some (.int (zi kk)), some (.int (zi zq55)), some (.int (zi (zq55 / 16))), some (.int (zi (zq55 % 16))), some (.int (zi z513)), some (.int (zi lf)), some (.int (zi go))]) (S2 := [.int (zi z513), .int (zi (p + kk)), .ref c676]) rfl (by simp only [zi_add, zi_sub, zi_mul, zi_neg, zi_and1, zi_and7, zi_and15, zi_and31, zi_and255]) (by simp only [zi_add, zi_sub, zi_mul, zi_neg, zi_and1, zi_and7, zi_and15, zi_and31, zi_and255]) ?_
                              have hl677 : 12288 ≤ hq665.2.2.2.1 c676 ∧ hq665.2.2.2.1 c676 ≤ 12288 := gJ.rowl (G := gGG) sq665.1 tc676 rfl
                              refine gs_ast rfl (by decide) sq665 tc676 rfl rfl rfl (by decide) (fun _ => rfl) (by omega) (by omega) (fun _ => (by decide : (23999 : Nat) ∈ ([1045, 1046, 1047, 1048, 20999, 23999] : List Nat))) (by omega) (by omega) (fun h678 sh678 eh678 fh678 => ?_)
                              have pr679 := gEl.pt fh678 tc676 (by decide) pr674
                              have s680 := (fh678 m 3 (fun q => absurd (((tm).symm.trans (congrArg ty q.1)).trans tc676) (by decide))).trans s666
                              have s681 := (fh678 m 44 (fun q => absurd (((tm).symm.trans (congrArg ty q.1)).trans tc676) (by decide))).trans s667
                              have s682 := (fh678 m 41 (fun q => absurd (((tm).symm.trans (congrArg ty q.1)).trans tc676) (by decide))).trans s668
                              have s683 := (fh678 m 42 (fun q => absurd (((tm).symm.trans (congrArg ty q.1)).trans tc676) (by decide))).trans s669
                              have s684 := (fh678 m 45 (fun q => absurd (((tm).symm.trans (congrArg ty q.1)).trans tc676) (by decide))).trans s670
                              have s685 := (fh678 m 36 (fun q => absurd (((tm).symm.trans (congrArg ty q.1)).trans tc676) (by decide))).trans s671
                              have s686 := (fh678 m 47 (fun q => absurd (((tm).symm.trans (congrArg ty q.1)).trans tc676) (by decide))).trans s672
                              have s687 := (fh678 m 48 (fun q => absurd (((tm).symm.trans (congrArg ty q.1)).trans tc676) (by decide))).trans s673
                              have s688 := (fh678 m 46 (fun q => absurd (((tm).symm.trans (congrArg ty q.1)).trans tc676) (by decide))).trans efq665_0
                              have s689 := (fh678 m 37 (fun q => absurd (((tm).symm.trans (congrArg ty q.1)).trans tc676) (by decide))).trans ec676
                              refine gy_s 2 (pc' := 5) (L' := [some (.ref m), some (.int (zi b)), some (.int (zi p)), some (.int ((zi kk) + zi 1)), some (.int (zi zq55)), some (.int (zi (zq55 / 16))), some (.int (zi (zq55 % 16))), some (.int (zi z513)), some (.int (zi lf)), some (.int (zi go))]) (S' := []) (L2 := [some (.ref m), some (.int (zi b)), some (.int (zi p)), some (.int (zi (kk + 1))), some (.int (zi zq55)), some (.int (zi (zq55 / 16))), some (.int (zi (zq55 % 16))), some (.int (zi z513)), some (.int (zi lf)), some (.int (zi go))]) (S2 := []) rfl (by simp only [zi_add, zi_sub, zi_mul, zi_neg, zi_and1, zi_and7, zi_and15, zi_and31, zi_and255]) (by simp only [zi_add, zi_sub, zi_mul, zi_neg, zi_and1, zi_and7, zi_and15, zi_and31, zi_and255]) ?_
                              exact gz_wk (ihlp2 h678 (kk + 1) av kv fq665_0 rv (by omega) sh678 (by omega) (by omega) (by omega) (by omega) (by omega) (by omega) (by omega) (by omega) s680 s681 s682 s683 s686 s687 s688 s684 pr679) (gLw.s (gLw.s (gLw.s (gLw.s (gLw.n (gLw.n (gLw.n (gLw.n (gLw.n (gLw.n gLw.z))))))))))
                            · refine gy_ifF rfl (by decide) (by decide) (by omega) hc675 ?_
                              exact gz_end (I := .return_) (len := 1) rfl (Or.inl rfl) ⟨sq665, av, kv, fq665_0, rfl, s672, (by omega), (by omega), s673, (by omega), (by omega), efq665_0, (by omega), (by omega), (by omega), (by omega), (by omega)⟩
                          · refine gy_icF rfl (by decide) (by decide) (by omega) (by omega) hc664 ?_
                            refine gz_s 1 (pc' := 178) (L' := [some (.ref m), some (.int (zi b)), some (.int (zi p)), some (.int (zi kk)), some (.int (zi zq55)), some (.int (zi (zq55 / 16))), some (.int (zi (zq55 % 16))), some (.int (zi z513)), some (.int (zi lf)), some (.int (zi go))]) (S' := [.ref m]) rfl ?_
                            refine gs_gtr rfl (by decide) rfl sh611.1 tm rfl rfl rfl (fun c690 ec690 tc690 => ?_)
                            refine gy_s 3 (pc' := 184) (L' := [some (.ref m), some (.int (zi b)), some (.int (zi p)), some (.int (zi kk)), some (.int (zi zq55)), some (.int (zi (zq55 / 16))), some (.int (zi (zq55 % 16))), some (.int (zi z513)), some (.int (zi lf)), some (.int (zi go))]) (S' := [.int ((zi p) + (zi kk)), .ref c690]) (L2 := [some (.ref m), some (.int (zi b)), some (.int (zi p)), some (.int (zi kk)), some (.int (zi zq55)), some (.int (zi (zq55 / 16))), some (.int (zi (zq55 % 16))), some (.int (zi z513)), some (.int (zi lf)), some (.int (zi go))]) (S2 := [.int (zi (p + kk)), .ref c690]) rfl (by simp only [zi_add, zi_sub, zi_mul, zi_neg, zi_and1, zi_and7, zi_and15, zi_and31, zi_and255]) (by simp only [zi_add, zi_sub, zi_mul, zi_neg, zi_and1, zi_and7, zi_and15, zi_and31, zi_and255]) ?_
                            have hl691 : 12288 ≤ h611.2.2.2.1 c690 ∧ h611.2.2.2.1 c690 ≤ 12288 := gJ.rowl (G := gGG) sh611.1 tc690 rfl
                            refine gs_ald rfl (by decide) sh611.1 tc690 rfl rfl rfl (by decide) (fun _ => rfl) (by omega) (by omega) (fun z692 ez692 az692 bz692 => ?_)
                            by_cases hc693 : (z692 : Int) = 0
                            · refine gy_ifT (pc' := 212) rfl (by decide) (by decide) (by omega) hc693 ?_
                              refine gz_s 1 (pc' := 214) (L' := [some (.ref m), some (.int (zi b)), some (.int (zi p)), some (.int (zi kk)), some (.int (zi zq55)), some (.int (zi (zq55 / 16))), some (.int (zi (zq55 % 16))), some (.int (zi z513)), some (.int (zi lf)), some (.int (zi go))]) (S' := [.int (zi lf)]) rfl ?_
                              by_cases hc694 : (lf : Int) ≤ 0
                              · refine gy_ifT (pc' := 221) rfl (by decide) (by decide) (by omega) hc694 ?_
                                refine gy_s 4 (pc' := 229) (L' := [some (.ref m), some (.int (zi b)), some (.int (zi p)), some (.int (zi kk)), some (.int (zi zq55)), some (.int (zi (zq55 / 16))), some (.int (zi (zq55 % 16))), some (.int (zi z513)), some (.int ((zi lf) + zi (-1))), some (.int (zi 0))]) (S' := [.int (zi 0)]) (L2 := [some (.ref m), some (.int (zi b)), some (.int (zi p)), some (.int (zi kk)), some (.int (zi zq55)), some (.int (zi (zq55 / 16))), some (.int (zi (zq55 % 16))), some (.int (zi z513)), some (.int (zi (lf + (-1)))), some (.int (zi 0))]) (S2 := [.int (zi 0)]) rfl (by simp only [zi_add, zi_sub, zi_mul, zi_neg, zi_and1, zi_and7, zi_and15, zi_and31, zi_and255]) (by simp only [zi_add, zi_sub, zi_mul, zi_neg, zi_and1, zi_and7, zi_and15, zi_and31, zi_and255]) ?_
                                refine gy_ifT (pc' := 238) rfl (by decide) (by decide) (by omega) (by first | (simp [zc]; done) | (simp only [zc]; omega)) ?_
                                refine gz_s 3 (pc' := 164) (L' := [some (.ref m), some (.int (zi b)), some (.int (zi p)), some (.int (zi kk)), some (.int (zi zq55)), some (.int (zi (zq55 / 16))), some (.int (zi (zq55 % 16))), some (.int (zi z513)), some (.int (zi (lf + (-1)))), some (.int (zi 0))]) (S' := []) rfl ?_
                                exact gz_wk (ihlp610 h611 kk (lf + (-1)) 0 av kv uv (by omega) sh611 (by omega) (by omega) (by omega) (by omega) (by omega) (by omega) (by omega) (by omega) (by omega) (by omega) (by omega) lp610k0 lp610k1 lp610k2 lp610k3 lp610k4 lp610k5 lp610k6 lp610k7 lp610k8 lp610k9) (gLw.s (gLw.s (gLw.s (gLw.s (gLw.s (gLw.s (gLw.s (gLw.s (gLw.s (gLw.s gLw.z))))))))))
                              · refine gy_ifF rfl (by decide) (by decide) (by omega) hc694 ?_
                                refine gy_s 5 (pc' := 229) (L' := [some (.ref m), some (.int (zi b)), some (.int (zi p)), some (.int (zi kk)), some (.int (zi zq55)), some (.int (zi (zq55 / 16))), some (.int (zi (zq55 % 16))), some (.int (zi z513)), some (.int ((zi lf) + zi (-1))), some (.int (zi 1))]) (S' := [.int (zi 1)]) (L2 := [some (.ref m), some (.int (zi b)), some (.int (zi p)), some (.int (zi kk)), some (.int (zi zq55)), some (.int (zi (zq55 / 16))), some (.int (zi (zq55 % 16))), some (.int (zi z513)), some (.int (zi (lf + (-1)))), some (.int (zi 1))]) (S2 := [.int (zi 1)]) rfl (by simp only [zi_add, zi_sub, zi_mul, zi_neg, zi_and1, zi_and7, zi_and15, zi_and31, zi_and255]) (by simp only [zi_add, zi_sub, zi_mul, zi_neg, zi_and1, zi_and7, zi_and15, zi_and31, zi_and255]) ?_
                                refine gy_ifF rfl (by decide) (by decide) (by omega) (by first | (simp [zc]; done) | (simp only [zc]; omega)) ?_
                                refine gy_s 6 (pc' := 164) (L' := [some (.ref m), some (.int (zi b)), some (.int (zi p)), some (.int ((zi kk) + (zi 1))), some (.int (zi zq55)), some (.int (zi (zq55 / 16))), some (.int (zi (zq55 % 16))), some (.int (zi z513)), some (.int (zi (lf + (-1)))), some (.int (zi 1))]) (S' := []) (L2 := [some (.ref m), some (.int (zi b)), some (.int (zi p)), some (.int (zi (kk + 1))), some (.int (zi zq55)), some (.int (zi (zq55 / 16))), some (.int (zi (zq55 % 16))), some (.int (zi z513)), some (.int (zi (lf + (-1)))), some (.int (zi 1))]) (S2 := []) rfl (by simp only [zi_add, zi_sub, zi_mul, zi_neg, zi_and1, zi_and7, zi_and15, zi_and31, zi_and255]) (by simp only [zi_add, zi_sub, zi_mul, zi_neg, zi_and1, zi_and7, zi_and15, zi_and31, zi_and255]) ?_
                                exact gz_wk (ihlp610 h611 (kk + 1) (lf + (-1)) 1 av kv uv (by omega) sh611 (by omega) (by omega) (by omega) (by omega) (by omega) (by omega) (by omega) (by omega) (by omega) (by omega) (by omega) lp610k0 lp610k1 lp610k2 lp610k3 lp610k4 lp610k5 lp610k6 lp610k7 lp610k8 lp610k9) (gLw.s (gLw.s (gLw.s (gLw.s (gLw.s (gLw.s (gLw.s (gLw.s (gLw.s (gLw.s gLw.z))))))))))
                            · refine gy_ifF rfl (by decide) (by decide) (by omega) hc693 ?_
                              refine gy_s 4 (pc' := 192) (L' := [some (.ref m), some (.int (zi b)), some (.int (zi p)), some (.int (zi kk)), some (.int (zi zq55)), some (.int (zi (zq55 / 16))), some (.int (zi (zq55 % 16))), some (.int (zi z513)), some (.int (zi lf)), some (.int (zi go))]) (S' := [.int ((zi p) + (zi kk)), .ref m]) (L2 := [some (.ref m), some (.int (zi b)), some (.int (zi p)), some (.int (zi kk)), some (.int (zi zq55)), some (.int (zi (zq55 / 16))), some (.int (zi (zq55 % 16))), some (.int (zi z513)), some (.int (zi lf)), some (.int (zi go))]) (S2 := [.int (zi (p + kk)), .ref m]) rfl (by simp only [zi_add, zi_sub, zi_mul, zi_neg, zi_and1, zi_and7, zi_and15, zi_and31, zi_and255]) (by simp only [zi_add, zi_sub, zi_mul, zi_neg, zi_and1, zi_and7, zi_and15, zi_and31, zi_and255]) ?_
                              refine gz_call rfl (by decide) rfl (by decide) (by decide) (gcal_of rfl rfl rfl (Nat.le_of_ble_eq_true rfl) (gJ.recv (G := gGG) sh611.1 tm rfl rfl)) (mm_grow _ sh611.1 m tm (p + kk) (by omega) av lp610k6 (by omega) kv lp610k7 (by omega) sz lp610k0 (by omega) uv lp610k8 (by omega) lw lp610k1 (by omega) (by omega)) (fun q695 _ wq695 => ?_)
                              obtain ⟨pq695, oq695, hq695⟩ := q695
                              obtain ⟨xq695, fq695_0, fq695_1, fq695_2, gq695, efq695_0, afq695_0, bfq695_0, efq695_1, afq695_1, bfq695_1, efq695_2, afq695_2, bfq695_2, uq695_0, uq695_1, uq695_2⟩ := wq695
                              refine ⟨_, gq695, ?_⟩
                              show gz gPP gGG gcn _ _ 195 [some (.ref m), some (.int (zi b)), some (.int (zi p)), some (.int (zi kk)), some (.int (zi zq55)), some (.int (zi (zq55 / 16))), some (.int (zi (zq55 % 16))), some (.int (zi z513)), some (.int (zi lf)), some (.int (zi go))] [] hq695 _
                              have sq695 := gSs.tr sh611 xq695 (by decide)
                              have s696 := (xq695.2.2.2.2.2 m 3 (by rw [tm]; decide)).trans lp610k0
                              have s697 := (xq695.2.2.2.2.2 m 44 (by rw [tm]; decide)).trans lp610k1
                              have s698 := (xq695.2.2.2.2.2 m 41 (by rw [tm]; decide)).trans lp610k2
                              have s699 := (xq695.2.2.2.2.2 m 42 (by rw [tm]; decide)).trans lp610k3
                              have s700 := (xq695.2.2.2.2.2 m 45 (by rw [tm]; decide)).trans lp610k4
                              have s701 := (xq695.2.2.2.2.2 m 36 (by rw [tm]; decide)).trans lp610k5
                              have s702 := (xq695.2.2.2.2.2 m 37 (by rw [tm]; decide)).trans ec690
                              have pr703 := gEl.fr xq695.2 (by decide) (fun _ => rfl) lp610k9
                              refine gz_s 1 (pc' := 196) (L' := [some (.ref m), some (.int (zi b)), some (.int (zi p)), some (.int (zi kk)), some (.int (zi zq55)), some (.int (zi (zq55 / 16))), some (.int (zi (zq55 % 16))), some (.int (zi z513)), some (.int (zi lf)), some (.int (zi go))]) (S' := [.ref m]) rfl ?_
                              refine gs_gtk rfl (by decide) rfl sq695.1 tm rfl rfl efq695_2 ?_
                              by_cases hc704 : ¬ (fq695_2 : Int) = 0
                              · refine gy_ifT (pc' := 206) rfl (by decide) (by decide) (by omega) hc704 ?_
                                refine gz_s 4 (pc' := 229) (L' := [some (.ref m), some (.int (zi b)), some (.int (zi p)), some (.int (zi kk)), some (.int (zi zq55)), some (.int (zi (zq55 / 16))), some (.int (zi (zq55 % 16))), some (.int (zi z513)), some (.int (zi lf)), some (.int (zi 0))]) (S' := [.int (zi 0)]) rfl ?_
                                refine gy_ifT (pc' := 238) rfl (by decide) (by decide) (by omega) (by first | (simp [zc]; done) | (simp only [zc]; omega)) ?_
                                refine gz_s 3 (pc' := 164) (L' := [some (.ref m), some (.int (zi b)), some (.int (zi p)), some (.int (zi kk)), some (.int (zi zq55)), some (.int (zi (zq55 / 16))), some (.int (zi (zq55 % 16))), some (.int (zi z513)), some (.int (zi lf)), some (.int (zi 0))]) (S' := []) rfl ?_
                                exact gz_wk (ihlp610 hq695 kk lf 0 fq695_0 fq695_1 fq695_2 (by omega) sq695 (by omega) (by omega) (by omega) (by omega) (by omega) (by omega) (by omega) (by omega) (by omega) (by omega) (by omega) s696 s697 s698 s699 s700 s701 efq695_0 efq695_1 efq695_2 pr703) (gLw.s (gLw.s (gLw.s (gLw.s (gLw.s (gLw.s (gLw.s (gLw.s (gLw.s (gLw.s gLw.z))))))))))
                              · refine gy_ifF rfl (by decide) (by decide) (by omega) hc704 ?_
                                refine gz_s 5 (pc' := 229) (L' := [some (.ref m), some (.int (zi b)), some (.int (zi p)), some (.int (zi kk)), some (.int (zi zq55)), some (.int (zi (zq55 / 16))), some (.int (zi (zq55 % 16))), some (.int (zi z513)), some (.int (zi lf)), some (.int (zi 1))]) (S' := [.int (zi 1)]) rfl ?_
                                refine gy_ifF rfl (by decide) (by decide) (by omega) (by first | (simp [zc]; done) | (simp only [zc]; omega)) ?_
                                refine gy_s 6 (pc' := 164) (L' := [some (.ref m), some (.int (zi b)), some (.int (zi p)), some (.int ((zi kk) + (zi 1))), some (.int (zi zq55)), some (.int (zi (zq55 / 16))), some (.int (zi (zq55 % 16))), some (.int (zi z513)), some (.int (zi lf)), some (.int (zi 1))]) (S' := []) (L2 := [some (.ref m), some (.int (zi b)), some (.int (zi p)), some (.int (zi (kk + 1))), some (.int (zi zq55)), some (.int (zi (zq55 / 16))), some (.int (zi (zq55 % 16))), some (.int (zi z513)), some (.int (zi lf)), some (.int (zi 1))]) (S2 := []) rfl (by simp only [zi_add, zi_sub, zi_mul, zi_neg, zi_and1, zi_and7, zi_and15, zi_and31, zi_and255]) (by simp only [zi_add, zi_sub, zi_mul, zi_neg, zi_and1, zi_and7, zi_and15, zi_and31, zi_and255]) ?_
                                exact gz_wk (ihlp610 hq695 (kk + 1) lf 1 fq695_0 fq695_1 fq695_2 (by omega) sq695 (by omega) (by omega) (by omega) (by omega) (by omega) (by omega) (by omega) (by omega) (by omega) (by omega) (by omega) s696 s697 s698 s699 s700 s701 efq695_0 efq695_1 efq695_2 pr703) (gLw.s (gLw.s (gLw.s (gLw.s (gLw.s (gLw.s (gLw.s (gLw.s (gLw.s (gLw.s gLw.z))))))))))
                    exact gz_wk (lp610 _ hq312 k (zq55 / 16) 1 fq312_0 fq312_1 fq312_2 (Nat.lt_succ_self _) sq312 (by omega) (by omega) (by omega) (by omega) (by omega) (by omega) (by omega) (by omega) (by omega) (by omega) (by omega) s313 s314 s315 s316 s317 s318 efq312_0 efq312_1 efq312_2 pr319) (gLw.s (gLw.s (gLw.s (gLw.s (gLw.s (gLw.s (gLw.s (gLw.s (gLw.s (gLw.s gLw.z))))))))))
              · refine gy_ifF rfl (by decide) (by decide) (by omega) hc311 ?_
                refine gz_s 2 (pc' := 78) (L' := [some (.ref m), some (.int (zi b)), some (.int (zi p)), some (.int (zi k)), some (.int (zi zq55)), some (.int (zi (zq55 / 16))), some (.int (zi (zq55 % 16))), none, none, none]) (S' := [.int (zi 15), .int (zi (zq55 / 16))]) rfl ?_
                by_cases hc705 : (15 : Int) ≤ zq55 / 16
                · refine gy_icT (pc' := 111) rfl (by decide) (by decide) (by omega) (by omega) hc705 ?_
                  refine gz_s 1 (pc' := 113) (L' := [some (.ref m), some (.int (zi b)), some (.int (zi p)), some (.int (zi k)), some (.int (zi zq55)), some (.int (zi (zq55 / 16))), some (.int (zi (zq55 % 16))), none, none, none]) (S' := [.int (zi (zq55 % 16))]) rfl ?_
                  refine gy_ifF rfl (by decide) (by decide) (by omega) (by first | (simp [zc]; done) | (simp only [zc]; omega)) ?_
                  refine gz_s 6 (pc' := 151) (L' := [some (.ref m), some (.int (zi b)), some (.int (zi p)), some (.int (zi k)), some (.int (zi zq55)), some (.int (zi (zq55 / 16))), some (.int (zi (zq55 % 16))), some (.int (zi 0)), some (.int (zi (zq55 / 16))), none]) (S' := [.ref m]) rfl ?_
                  refine gs_gtk rfl (by decide) rfl sq300.1 tm rfl rfl efq300_0 ?_
                  refine gy_ifF rfl (by decide) (by decide) (by omega) (by first | (simp [zc]; done) | (simp only [zc]; omega)) ?_
                  refine gz_s 3 (pc' := 164) (L' := [some (.ref m), some (.int (zi b)), some (.int (zi p)), some (.int (zi k)), some (.int (zi zq55)), some (.int (zi (zq55 / 16))), some (.int (zi (zq55 % 16))), some (.int (zi 0)), some (.int (zi (zq55 / 16))), some (.int (zi 1))]) (S' := []) rfl ?_
                  have lp706 : ∀ (fu : Nat) (h707 : gH) (kk : Int) (lf : Int) (go : Int) (av : Int) (kv : Int) (uv : Int), (2 * (200 - kk) + go).toNat < fu → gSs rT 1027 ty [1045, 1046, 1047, 1048, 20999, 23999] h h707 → (1 ≤ kk ∧ kk ≤ 64) → ((-1) ≤ lf ∧ lf ≤ 15) → (0 ≤ go ∧ go ≤ 1) → (0 ≤ av ∧ av ≤ 2001) → (0 ≤ kv ∧ kv ≤ 7) → (0 ≤ uv ∧ uv ≤ 1) → (kv = 0 ∨ av < sz) → (a0 ≤ av) → (uv = 0 → u0 = 0) → (k ≤ kk) → (go = 1 → 0 ≤ lf) → h707.2.2.2.2 m 3 = .int (zi sz) → h707.2.2.2.2 m 44 = .int (zi lw) → h707.2.2.2.2 m 41 = .int (zi fr) → h707.2.2.2.2 m 42 = .int (zi tt) → h707.2.2.2.2 m 45 = .int (zi rv) → h707.2.2.2.2 m 36 = .ref c51 → h707.2.2.2.2 m 47 = .int (zi av) → h707.2.2.2.2 m 48 = .int (zi kv) → h707.2.2.2.2 m 46 = .int (zi uv) → gEl ty 22 b 4 7 h707 → gz gPP gGG gcn (d + 5) gt161 164 [some (.ref m), some (.int (zi b)), some (.int (zi p)), some (.int (zi kk)), some (.int (zi zq55)), some (.int (zi (zq55 / 16))), some (.int (zi (zq55 % 16))), some (.int (zi 0)), some (.int (zi lf)), some (.int (zi go))] [] h707 (fun q _ => gSs rT 1027 ty [1045, 1046, 1047, 1048, 20999, 23999] h q.2.2 ∧ ∃ a1 k1 u1 : Int, gfin gt161 q.1 q.2.1 = some none ∧ q.2.2.2.2.2.2 m 47 = .int (zi a1) ∧ 0 ≤ a1 ∧ a1 ≤ 2001 ∧ q.2.2.2.2.2.2 m 48 = .int (zi k1) ∧ 0 ≤ k1 ∧ k1 ≤ 7 ∧ q.2.2.2.2.2.2 m 46 = .int (zi u1) ∧ 0 ≤ u1 ∧ u1 ≤ 1 ∧ (k1 = 0 ∨ a1 < sz) ∧ (a0 ≤ a1) ∧ (u1 = 0 → u0 = 0)) := by
                    intro fu
                    induction fu with
                    | zero => intro h707 kk lf go av kv uv hm; exact absurd hm (Nat.not_lt_zero _)
                    | succ fu ihlp706 =>
                      intro h707 kk lf go av kv uv lp706m sh707 lp706f0 lp706f1 lp706f2 lp706f3 lp706f4 lp706f5 lp706f6 lp706f7 lp706f8 lp706f9 lp706f10 lp706k0 lp706k1 lp706k2 lp706k3 lp706k4 lp706k5 lp706k6 lp706k7 lp706k8 lp706k9
                      refine gz_s 1 (pc' := 166) (L' := [some (.ref m), some (.int (zi b)), some (.int (zi p)), some (.int (zi kk)), some (.int (zi zq55)), some (.int (zi (zq55 / 16))), some (.int (zi (zq55 % 16))), some (.int (zi 0)), some (.int (zi lf)), some (.int (zi go))]) (S' := [.int (zi go)]) rfl ?_
                      by_cases hc708 : (go : Int) = 0
                      · refine gy_ifT (pc' := 243) rfl (by decide) (by decide) (by omega) hc708 ?_
                        refine gz_s 3 (pc' := 246) (L' := [some (.ref m), some (.int (zi b)), some (.int (zi p)), some (.int (zi kk)), some (.int (zi zq55)), some (.int (zi (zq55 / 16))), some (.int (zi (zq55 % 16))), some (.int (zi 0)), some (.int (zi lf)), some (.int (zi go))]) (S' := [.ref m, .int (zi kk), .ref m]) rfl ?_
                        refine gs_gtk rfl (by decide) rfl sh707.1 tm rfl rfl lp706k3 ?_
                        by_cases hc709 : (kk : Int) ≤ tt
                        · refine gy_icT (pc' := 257) rfl (by decide) (by decide) (by omega) (by omega) hc709 ?_
                          refine gz_s 2 (pc' := 262) (L' := [some (.ref m), some (.int (zi b)), some (.int (zi p)), some (.int (zi kk)), some (.int (zi zq55)), some (.int (zi (zq55 / 16))), some (.int (zi (zq55 % 16))), some (.int (zi 0)), some (.int (zi lf)), some (.int (zi go))]) (S' := [.int (zi 1), .ref m]) rfl ?_
                          refine gz_call rfl (by decide) rfl (by decide) (by decide) (gcal_of rfl rfl rfl (Nat.le_of_ble_eq_true rfl) (gJ.recv (G := gGG) sh707.1 tm rfl rfl)) (mm_keep _ sh707.1 m tm 1 (by omega) uv lp706k8 (by omega)) (fun q710 _ wq710 => ?_)
                          obtain ⟨pq710, oq710, hq710⟩ := q710
                          obtain ⟨xq710, fq710_0, gq710, efq710_0, afq710_0, bfq710_0, uq710_0⟩ := wq710
                          refine ⟨_, gq710, ?_⟩
                          show gz gPP gGG gcn _ _ 265 [some (.ref m), some (.int (zi b)), some (.int (zi p)), some (.int (zi kk)), some (.int (zi zq55)), some (.int (zi (zq55 / 16))), some (.int (zi (zq55 % 16))), some (.int (zi 0)), some (.int (zi lf)), some (.int (zi go))] [] hq710 _
                          have sq710 := gSs.tr sh707 xq710 (by decide)
                          have s711 := (xq710.2.2.2.2.2 m 3 (by rw [tm]; decide)).trans lp706k0
                          have s712 := (xq710.2.2.2.2.2 m 44 (by rw [tm]; decide)).trans lp706k1
                          have s713 := (xq710.2.2.2.2.2 m 41 (by rw [tm]; decide)).trans lp706k2
                          have s714 := (xq710.2.2.2.2.2 m 42 (by rw [tm]; decide)).trans lp706k3
                          have s715 := (xq710.2.2.2.2.2 m 45 (by rw [tm]; decide)).trans lp706k4
                          have s716 := (xq710.2.2.2.2.2 m 36 (by rw [tm]; decide)).trans lp706k5
                          have s717 := (xq710.2.2.2.2.2 m 47 (by rw [tm]; decide)).trans lp706k6
                          have s718 := (xq710.2.2.2.2.2 m 48 (by rw [tm]; decide)).trans lp706k7
                          have pr719 := gEl.fr xq710.2 (by decide) (fun _ => rfl) lp706k9
                          refine gz_s 1 (pc' := 266) (L' := [some (.ref m), some (.int (zi b)), some (.int (zi p)), some (.int (zi kk)), some (.int (zi zq55)), some (.int (zi (zq55 / 16))), some (.int (zi (zq55 % 16))), some (.int (zi 0)), some (.int (zi lf)), some (.int (zi go))]) (S' := [.ref m]) rfl ?_
                          refine gs_gtk rfl (by decide) rfl sq710.1 tm rfl rfl efq710_0 ?_
                          by_cases hc720 : (fq710_0 : Int) = 0
                          · refine gy_ifT (pc' := 273) rfl (by decide) (by decide) (by omega) hc720 ?_
                            refine gz_s 2 (pc' := 276) (L' := [some (.ref m), some (.int (zi b)), some (.int (zi p)), some (.int (zi kk)), some (.int (zi zq55)), some (.int (zi (zq55 / 16))), some (.int (zi (zq55 % 16))), some (.int (zi 0)), some (.int (zi lf)), some (.int (zi go))]) (S' := [.int (zi 1), .int (zi (zq55 % 16))]) rfl ?_
                            refine gy_icT (pc' := 289) rfl (by decide) (by decide) (by omega) (by omega) (by first | (simp [zc]; done) | (simp only [zc]; omega)) ?_
                            refine gy_s 2 (pc' := 5) (L' := [some (.ref m), some (.int (zi b)), some (.int (zi p)), some (.int ((zi kk) + zi 1)), some (.int (zi zq55)), some (.int (zi (zq55 / 16))), some (.int (zi (zq55 % 16))), some (.int (zi 0)), some (.int (zi lf)), some (.int (zi go))]) (S' := []) (L2 := [some (.ref m), some (.int (zi b)), some (.int (zi p)), some (.int (zi (kk + 1))), some (.int (zi zq55)), some (.int (zi (zq55 / 16))), some (.int (zi (zq55 % 16))), some (.int (zi 0)), some (.int (zi lf)), some (.int (zi go))]) (S2 := []) rfl (by simp only [zi_add, zi_sub, zi_mul, zi_neg, zi_and1, zi_and7, zi_and15, zi_and31, zi_and255]) (by simp only [zi_add, zi_sub, zi_mul, zi_neg, zi_and1, zi_and7, zi_and15, zi_and31, zi_and255]) ?_
                            exact gz_wk (ihlp2 hq710 (kk + 1) av kv fq710_0 rv (by omega) sq710 (by omega) (by omega) (by omega) (by omega) (by omega) (by omega) (by omega) (by omega) s711 s712 s713 s714 s717 s718 efq710_0 s715 pr719) (gLw.s (gLw.s (gLw.s (gLw.s (gLw.n (gLw.n (gLw.n (gLw.n (gLw.n (gLw.n gLw.z))))))))))
                          · refine gy_ifF rfl (by decide) (by decide) (by omega) hc720 ?_
                            exact gz_end (I := .return_) (len := 1) rfl (Or.inl rfl) ⟨sq710, av, kv, fq710_0, rfl, s717, (by omega), (by omega), s718, (by omega), (by omega), efq710_0, (by omega), (by omega), (by omega), (by omega), (by omega)⟩
                        · refine gy_icF rfl (by decide) (by decide) (by omega) (by omega) hc709 ?_
                          refine gz_s 1 (pc' := 254) (L' := [some (.ref m), some (.int (zi b)), some (.int (zi p)), some (.int (zi kk)), some (.int (zi zq55)), some (.int (zi (zq55 / 16))), some (.int (zi (zq55 % 16))), some (.int (zi 0)), some (.int (zi lf)), some (.int (zi go))]) (S' := [.int (zi (zq55 % 16)), .ref m]) rfl ?_
                          refine gy_ifF rfl (by decide) (by decide) (by omega) (by first | (simp [zc]; done) | (simp only [zc]; omega)) ?_
                          refine gz_s 2 (pc' := 262) (L' := [some (.ref m), some (.int (zi b)), some (.int (zi p)), some (.int (zi kk)), some (.int (zi zq55)), some (.int (zi (zq55 / 16))), some (.int (zi (zq55 % 16))), some (.int (zi 0)), some (.int (zi lf)), some (.int (zi go))]) (S' := [.int (zi 1), .ref m]) rfl ?_
                          refine gz_call rfl (by decide) rfl (by decide) (by decide) (gcal_of rfl rfl rfl (Nat.le_of_ble_eq_true rfl) (gJ.recv (G := gGG) sh707.1 tm rfl rfl)) (mm_keep _ sh707.1 m tm 1 (by omega) uv lp706k8 (by omega)) (fun q721 _ wq721 => ?_)
                          obtain ⟨pq721, oq721, hq721⟩ := q721
                          obtain ⟨xq721, fq721_0, gq721, efq721_0, afq721_0, bfq721_0, uq721_0⟩ := wq721
                          refine ⟨_, gq721, ?_⟩
                          show gz gPP gGG gcn _ _ 265 [some (.ref m), some (.int (zi b)), some (.int (zi p)), some (.int (zi kk)), some (.int (zi zq55)), some (.int (zi (zq55 / 16))), some (.int (zi (zq55 % 16))), some (.int (zi 0)), some (.int (zi lf)), some (.int (zi go))] [] hq721 _
                          have sq721 := gSs.tr sh707 xq721 (by decide)
                          have s722 := (xq721.2.2.2.2.2 m 3 (by rw [tm]; decide)).trans lp706k0
                          have s723 := (xq721.2.2.2.2.2 m 44 (by rw [tm]; decide)).trans lp706k1
                          have s724 := (xq721.2.2.2.2.2 m 41 (by rw [tm]; decide)).trans lp706k2
                          have s725 := (xq721.2.2.2.2.2 m 42 (by rw [tm]; decide)).trans lp706k3
                          have s726 := (xq721.2.2.2.2.2 m 45 (by rw [tm]; decide)).trans lp706k4
                          have s727 := (xq721.2.2.2.2.2 m 36 (by rw [tm]; decide)).trans lp706k5
                          have s728 := (xq721.2.2.2.2.2 m 47 (by rw [tm]; decide)).trans lp706k6
                          have s729 := (xq721.2.2.2.2.2 m 48 (by rw [tm]; decide)).trans lp706k7
                          have pr730 := gEl.fr xq721.2 (by decide) (fun _ => rfl) lp706k9
                          refine gz_s 1 (pc' := 266) (L' := [some (.ref m), some (.int (zi b)), some (.int (zi p)), some (.int (zi kk)), some (.int (zi zq55)), some (.int (zi (zq55 / 16))), some (.int (zi (zq55 % 16))), some (.int (zi 0)), some (.int (zi lf)), some (.int (zi go))]) (S' := [.ref m]) rfl ?_
                          refine gs_gtk rfl (by decide) rfl sq721.1 tm rfl rfl efq721_0 ?_
                          by_cases hc731 : (fq721_0 : Int) = 0
                          · refine gy_ifT (pc' := 273) rfl (by decide) (by decide) (by omega) hc731 ?_
                            refine gz_s 2 (pc' := 276) (L' := [some (.ref m), some (.int (zi b)), some (.int (zi p)), some (.int (zi kk)), some (.int (zi zq55)), some (.int (zi (zq55 / 16))), some (.int (zi (zq55 % 16))), some (.int (zi 0)), some (.int (zi lf)), some (.int (zi go))]) (S' := [.int (zi 1), .int (zi (zq55 % 16))]) rfl ?_
                            refine gy_icT (pc' := 289) rfl (by decide) (by decide) (by omega) (by omega) (by first | (simp [zc]; done) | (simp only [zc]; omega)) ?_
                            refine gy_s 2 (pc' := 5) (L' := [some (.ref m), some (.int (zi b)), some (.int (zi p)), some (.int ((zi kk) + zi 1)), some (.int (zi zq55)), some (.int (zi (zq55 / 16))), some (.int (zi (zq55 % 16))), some (.int (zi 0)), some (.int (zi lf)), some (.int (zi go))]) (S' := []) (L2 := [some (.ref m), some (.int (zi b)), some (.int (zi p)), some (.int (zi (kk + 1))), some (.int (zi zq55)), some (.int (zi (zq55 / 16))), some (.int (zi (zq55 % 16))), some (.int (zi 0)), some (.int (zi lf)), some (.int (zi go))]) (S2 := []) rfl (by simp only [zi_add, zi_sub, zi_mul, zi_neg, zi_and1, zi_and7, zi_and15, zi_and31, zi_and255]) (by simp only [zi_add, zi_sub, zi_mul, zi_neg, zi_and1, zi_and7, zi_and15, zi_and31, zi_and255]) ?_
                            exact gz_wk (ihlp2 hq721 (kk + 1) av kv fq721_0 rv (by omega) sq721 (by omega) (by omega) (by omega) (by omega) (by omega) (by omega) (by omega) (by omega) s722 s723 s724 s725 s728 s729 efq721_0 s726 pr730) (gLw.s (gLw.s (gLw.s (gLw.s (gLw.n (gLw.n (gLw.n (gLw.n (gLw.n (gLw.n gLw.z))))))))))
                          · refine gy_ifF rfl (by decide) (by decide) (by omega) hc731 ?_
                            exact gz_end (I := .return_) (len := 1) rfl (Or.inl rfl) ⟨sq721, av, kv, fq721_0, rfl, s728, (by omega), (by omega), s729, (by omega), (by omega), efq721_0, (by omega), (by omega), (by omega), (by omega), (by omega)⟩
                      · refine gy_ifF rfl (by decide) (by decide) (by omega) hc708 ?_
                        refine gz_s 2 (pc' := 171) (L' := [some (.ref m), some (.int (zi b)), some (.int (zi p)), some (.int (zi kk)), some (.int (zi zq55)), some (.int (zi (zq55 / 16))), some (.int (zi (zq55 % 16))), some (.int (zi 0)), some (.int (zi lf)), some (.int (zi go))]) (S' := [.ref m, .int (zi kk)]) rfl ?_
                        refine gs_gtk rfl (by decide) rfl sh707.1 tm rfl rfl lp706k3 ?_
                        by_cases hc732 : (tt : Int) < kk
                        · refine gy_icT (pc' := 243) rfl (by decide) (by decide) (by omega) (by omega) hc732 ?_
                          refine gz_s 3 (pc' := 246) (L' := [some (.ref m), some (.int (zi b)), some (.int (zi p)), some (.int (zi kk)), some (.int (zi zq55)), some (.int (zi (zq55 / 16))), some (.int (zi (zq55 % 16))), some (.int (zi 0)), some (.int (zi lf)), some (.int (zi go))]) (S' := [.ref m, .int (zi kk), .ref m]) rfl ?_
                          refine gs_gtk rfl (by decide) rfl sh707.1 tm rfl rfl lp706k3 ?_
                          refine gy_icF rfl (by decide) (by decide) (by omega) (by omega) (by first | (simp [zc]; done) | (simp only [zc]; omega)) ?_
                          refine gz_s 1 (pc' := 254) (L' := [some (.ref m), some (.int (zi b)), some (.int (zi p)), some (.int (zi kk)), some (.int (zi zq55)), some (.int (zi (zq55 / 16))), some (.int (zi (zq55 % 16))), some (.int (zi 0)), some (.int (zi lf)), some (.int (zi go))]) (S' := [.int (zi (zq55 % 16)), .ref m]) rfl ?_
                          refine gy_ifF rfl (by decide) (by decide) (by omega) (by first | (simp [zc]; done) | (simp only [zc]; omega)) ?_
                          refine gz_s 2 (pc' := 262) (L' := [some (.ref m), some (.int (zi b)), some (.int (zi p)), some (.int (zi kk)), some (.int (zi zq55)), some (.int (zi (zq55 / 16))), some (.int (zi (zq55 % 16))), some (.int (zi 0)), some (.int (zi lf)), some (.int (zi go))]) (S' := [.int (zi 1), .ref m]) rfl ?_
                          refine gz_call rfl (by decide) rfl (by decide) (by decide) (gcal_of rfl rfl rfl (Nat.le_of_ble_eq_true rfl) (gJ.recv (G := gGG) sh707.1 tm rfl rfl)) (mm_keep _ sh707.1 m tm 1 (by omega) uv lp706k8 (by omega)) (fun q733 _ wq733 => ?_)
                          obtain ⟨pq733, oq733, hq733⟩ := q733
                          obtain ⟨xq733, fq733_0, gq733, efq733_0, afq733_0, bfq733_0, uq733_0⟩ := wq733
                          refine ⟨_, gq733, ?_⟩
                          show gz gPP gGG gcn _ _ 265 [some (.ref m), some (.int (zi b)), some (.int (zi p)), some (.int (zi kk)), some (.int (zi zq55)), some (.int (zi (zq55 / 16))), some (.int (zi (zq55 % 16))), some (.int (zi 0)), some (.int (zi lf)), some (.int (zi go))] [] hq733 _
                          have sq733 := gSs.tr sh707 xq733 (by decide)
                          have s734 := (xq733.2.2.2.2.2 m 3 (by rw [tm]; decide)).trans lp706k0
                          have s735 := (xq733.2.2.2.2.2 m 44 (by rw [tm]; decide)).trans lp706k1
                          have s736 := (xq733.2.2.2.2.2 m 41 (by rw [tm]; decide)).trans lp706k2
                          have s737 := (xq733.2.2.2.2.2 m 42 (by rw [tm]; decide)).trans lp706k3
                          have s738 := (xq733.2.2.2.2.2 m 45 (by rw [tm]; decide)).trans lp706k4
                          have s739 := (xq733.2.2.2.2.2 m 36 (by rw [tm]; decide)).trans lp706k5
                          have s740 := (xq733.2.2.2.2.2 m 47 (by rw [tm]; decide)).trans lp706k6
                          have s741 := (xq733.2.2.2.2.2 m 48 (by rw [tm]; decide)).trans lp706k7
                          have pr742 := gEl.fr xq733.2 (by decide) (fun _ => rfl) lp706k9
                          refine gz_s 1 (pc' := 266) (L' := [some (.ref m), some (.int (zi b)), some (.int (zi p)), some (.int (zi kk)), some (.int (zi zq55)), some (.int (zi (zq55 / 16))), some (.int (zi (zq55 % 16))), some (.int (zi 0)), some (.int (zi lf)), some (.int (zi go))]) (S' := [.ref m]) rfl ?_
                          refine gs_gtk rfl (by decide) rfl sq733.1 tm rfl rfl efq733_0 ?_
                          by_cases hc743 : (fq733_0 : Int) = 0
                          · refine gy_ifT (pc' := 273) rfl (by decide) (by decide) (by omega) hc743 ?_
                            refine gz_s 2 (pc' := 276) (L' := [some (.ref m), some (.int (zi b)), some (.int (zi p)), some (.int (zi kk)), some (.int (zi zq55)), some (.int (zi (zq55 / 16))), some (.int (zi (zq55 % 16))), some (.int (zi 0)), some (.int (zi lf)), some (.int (zi go))]) (S' := [.int (zi 1), .int (zi (zq55 % 16))]) rfl ?_
                            refine gy_icT (pc' := 289) rfl (by decide) (by decide) (by omega) (by omega) (by first | (simp [zc]; done) | (simp only [zc]; omega)) ?_
                            refine gy_s 2 (pc' := 5) (L' := [some (.ref m), some (.int (zi b)), some (.int (zi p)), some (.int ((zi kk) + zi 1)), some (.int (zi zq55)), some (.int (zi (zq55 / 16))), some (.int (zi (zq55 % 16))), some (.int (zi 0)), some (.int (zi lf)), some (.int (zi go))]) (S' := []) (L2 := [some (.ref m), some (.int (zi b)), some (.int (zi p)), some (.int (zi (kk + 1))), some (.int (zi zq55)), some (.int (zi (zq55 / 16))), some (.int (zi (zq55 % 16))), some (.int (zi 0)), some (.int (zi lf)), some (.int (zi go))]) (S2 := []) rfl (by simp only [zi_add, zi_sub, zi_mul, zi_neg, zi_and1, zi_and7, zi_and15, zi_and31, zi_and255]) (by simp only [zi_add, zi_sub, zi_mul, zi_neg, zi_and1, zi_and7, zi_and15, zi_and31, zi_and255]) ?_
                            exact gz_wk (ihlp2 hq733 (kk + 1) av kv fq733_0 rv (by omega) sq733 (by omega) (by omega) (by omega) (by omega) (by omega) (by omega) (by omega) (by omega) s734 s735 s736 s737 s740 s741 efq733_0 s738 pr742) (gLw.s (gLw.s (gLw.s (gLw.s (gLw.n (gLw.n (gLw.n (gLw.n (gLw.n (gLw.n gLw.z))))))))))
                          · refine gy_ifF rfl (by decide) (by decide) (by omega) hc743 ?_
                            exact gz_end (I := .return_) (len := 1) rfl (Or.inl rfl) ⟨sq733, av, kv, fq733_0, rfl, s740, (by omega), (by omega), s741, (by omega), (by omega), efq733_0, (by omega), (by omega), (by omega), (by omega), (by omega)⟩
                        · refine gy_icF rfl (by decide) (by decide) (by omega) (by omega) hc732 ?_
                          refine gz_s 1 (pc' := 178) (L' := [some (.ref m), some (.int (zi b)), some (.int (zi p)), some (.int (zi kk)), some (.int (zi zq55)), some (.int (zi (zq55 / 16))), some (.int (zi (zq55 % 16))), some (.int (zi 0)), some (.int (zi lf)), some (.int (zi go))]) (S' := [.ref m]) rfl ?_
                          refine gs_gtr rfl (by decide) rfl sh707.1 tm rfl rfl rfl (fun c744 ec744 tc744 => ?_)
                          refine gy_s 3 (pc' := 184) (L' := [some (.ref m), some (.int (zi b)), some (.int (zi p)), some (.int (zi kk)), some (.int (zi zq55)), some (.int (zi (zq55 / 16))), some (.int (zi (zq55 % 16))), some (.int (zi 0)), some (.int (zi lf)), some (.int (zi go))]) (S' := [.int ((zi p) + (zi kk)), .ref c744]) (L2 := [some (.ref m), some (.int (zi b)), some (.int (zi p)), some (.int (zi kk)), some (.int (zi zq55)), some (.int (zi (zq55 / 16))), some (.int (zi (zq55 % 16))), some (.int (zi 0)), some (.int (zi lf)), some (.int (zi go))]) (S2 := [.int (zi (p + kk)), .ref c744]) rfl (by simp only [zi_add, zi_sub, zi_mul, zi_neg, zi_and1, zi_and7, zi_and15, zi_and31, zi_and255]) (by simp only [zi_add, zi_sub, zi_mul, zi_neg, zi_and1, zi_and7, zi_and15, zi_and31, zi_and255]) ?_
                          have hl745 : 12288 ≤ h707.2.2.2.1 c744 ∧ h707.2.2.2.1 c744 ≤ 12288 := gJ.rowl (G := gGG) sh707.1 tc744 rfl
                          refine gs_ald rfl (by decide) sh707.1 tc744 rfl rfl rfl (by decide) (fun _ => rfl) (by omega) (by omega) (fun z746 ez746 az746 bz746 => ?_)
                          by_cases hc747 : (z746 : Int) = 0
                          · refine gy_ifT (pc' := 212) rfl (by decide) (by decide) (by omega) hc747 ?_
                            refine gz_s 1 (pc' := 214) (L' := [some (.ref m), some (.int (zi b)), some (.int (zi p)), some (.int (zi kk)), some (.int (zi zq55)), some (.int (zi (zq55 / 16))), some (.int (zi (zq55 % 16))), some (.int (zi 0)), some (.int (zi lf)), some (.int (zi go))]) (S' := [.int (zi lf)]) rfl ?_
                            by_cases hc748 : (lf : Int) ≤ 0
                            · refine gy_ifT (pc' := 221) rfl (by decide) (by decide) (by omega) hc748 ?_
                              refine gy_s 4 (pc' := 229) (L' := [some (.ref m), some (.int (zi b)), some (.int (zi p)), some (.int (zi kk)), some (.int (zi zq55)), some (.int (zi (zq55 / 16))), some (.int (zi (zq55 % 16))), some (.int (zi 0)), some (.int ((zi lf) + zi (-1))), some (.int (zi 0))]) (S' := [.int (zi 0)]) (L2 := [some (.ref m), some (.int (zi b)), some (.int (zi p)), some (.int (zi kk)), some (.int (zi zq55)), some (.int (zi (zq55 / 16))), some (.int (zi (zq55 % 16))), some (.int (zi 0)), some (.int (zi (lf + (-1)))), some (.int (zi 0))]) (S2 := [.int (zi 0)]) rfl (by simp only [zi_add, zi_sub, zi_mul, zi_neg, zi_and1, zi_and7, zi_and15, zi_and31, zi_and255]) (by simp only [zi_add, zi_sub, zi_mul, zi_neg, zi_and1, zi_and7, zi_and15, zi_and31, zi_and255]) ?_
                              refine gy_ifT (pc' := 238) rfl (by decide) (by decide) (by omega) (by first | (simp [zc]; done) | (simp only [zc]; omega)) ?_
                              refine gz_s 3 (pc' := 164) (L' := [some (.ref m), some (.int (zi b)), some (.int (zi p)), some (.int (zi kk)), some (.int (zi zq55)), some (.int (zi (zq55 / 16))), some (.int (zi (zq55 % 16))), some (.int (zi 0)), some (.int (zi (lf + (-1)))), some (.int (zi 0))]) (S' := []) rfl ?_
                              exact gz_wk (ihlp706 h707 kk (lf + (-1)) 0 av kv uv (by omega) sh707 (by omega) (by omega) (by omega) (by omega) (by omega) (by omega) (by omega) (by omega) (by omega) (by omega) (by omega) lp706k0 lp706k1 lp706k2 lp706k3 lp706k4 lp706k5 lp706k6 lp706k7 lp706k8 lp706k9) (gLw.s (gLw.s (gLw.s (gLw.s (gLw.s (gLw.s (gLw.s (gLw.s (gLw.s (gLw.s gLw.z))))))))))
                            · refine gy_ifF rfl (by decide) (by decide) (by omega) hc748 ?_
                              refine gy_s 5 (pc' := 229) (L' := [some (.ref m), some (.int (zi b)), some (.int (zi p)), some (.int (zi kk)), some (.int (zi zq55)), some (.int (zi (zq55 / 16))), some (.int (zi (zq55 % 16))), some (.int (zi 0)), some (.int ((zi lf) + zi (-1))), some (.int (zi 1))]) (S' := [.int (zi 1)]) (L2 := [some (.ref m), some (.int (zi b)), some (.int (zi p)), some (.int (zi kk)), some (.int (zi zq55)), some (.int (zi (zq55 / 16))), some (.int (zi (zq55 % 16))), some (.int (zi 0)), some (.int (zi (lf + (-1)))), some (.int (zi 1))]) (S2 := [.int (zi 1)]) rfl (by simp only [zi_add, zi_sub, zi_mul, zi_neg, zi_and1, zi_and7, zi_and15, zi_and31, zi_and255]) (by simp only [zi_add, zi_sub, zi_mul, zi_neg, zi_and1, zi_and7, zi_and15, zi_and31, zi_and255]) ?_
                              refine gy_ifF rfl (by decide) (by decide) (by omega) (by first | (simp [zc]; done) | (simp only [zc]; omega)) ?_
                              refine gy_s 6 (pc' := 164) (L' := [some (.ref m), some (.int (zi b)), some (.int (zi p)), some (.int ((zi kk) + (zi 1))), some (.int (zi zq55)), some (.int (zi (zq55 / 16))), some (.int (zi (zq55 % 16))), some (.int (zi 0)), some (.int (zi (lf + (-1)))), some (.int (zi 1))]) (S' := []) (L2 := [some (.ref m), some (.int (zi b)), some (.int (zi p)), some (.int (zi (kk + 1))), some (.int (zi zq55)), some (.int (zi (zq55 / 16))), some (.int (zi (zq55 % 16))), some (.int (zi 0)), some (.int (zi (lf + (-1)))), some (.int (zi 1))]) (S2 := []) rfl (by simp only [zi_add, zi_sub, zi_mul, zi_neg, zi_and1, zi_and7, zi_and15, zi_and31, zi_and255]) (by simp only [zi_add, zi_sub, zi_mul, zi_neg, zi_and1, zi_and7, zi_and15, zi_and31, zi_and255]) ?_
                              exact gz_wk (ihlp706 h707 (kk + 1) (lf + (-1)) 1 av kv uv (by omega) sh707 (by omega) (by omega) (by omega) (by omega) (by omega) (by omega) (by omega) (by omega) (by omega) (by omega) (by omega) lp706k0 lp706k1 lp706k2 lp706k3 lp706k4 lp706k5 lp706k6 lp706k7 lp706k8 lp706k9) (gLw.s (gLw.s (gLw.s (gLw.s (gLw.s (gLw.s (gLw.s (gLw.s (gLw.s (gLw.s gLw.z))))))))))
                          · refine gy_ifF rfl (by decide) (by decide) (by omega) hc747 ?_
                            refine gy_s 4 (pc' := 192) (L' := [some (.ref m), some (.int (zi b)), some (.int (zi p)), some (.int (zi kk)), some (.int (zi zq55)), some (.int (zi (zq55 / 16))), some (.int (zi (zq55 % 16))), some (.int (zi 0)), some (.int (zi lf)), some (.int (zi go))]) (S' := [.int ((zi p) + (zi kk)), .ref m]) (L2 := [some (.ref m), some (.int (zi b)), some (.int (zi p)), some (.int (zi kk)), some (.int (zi zq55)), some (.int (zi (zq55 / 16))), some (.int (zi (zq55 % 16))), some (.int (zi 0)), some (.int (zi lf)), some (.int (zi go))]) (S2 := [.int (zi (p + kk)), .ref m]) rfl (by simp only [zi_add, zi_sub, zi_mul, zi_neg, zi_and1, zi_and7, zi_and15, zi_and31, zi_and255]) (by simp only [zi_add, zi_sub, zi_mul, zi_neg, zi_and1, zi_and7, zi_and15, zi_and31, zi_and255]) ?_
                            refine gz_call rfl (by decide) rfl (by decide) (by decide) (gcal_of rfl rfl rfl (Nat.le_of_ble_eq_true rfl) (gJ.recv (G := gGG) sh707.1 tm rfl rfl)) (mm_grow _ sh707.1 m tm (p + kk) (by omega) av lp706k6 (by omega) kv lp706k7 (by omega) sz lp706k0 (by omega) uv lp706k8 (by omega) lw lp706k1 (by omega) (by omega)) (fun q749 _ wq749 => ?_)
                            obtain ⟨pq749, oq749, hq749⟩ := q749
                            obtain ⟨xq749, fq749_0, fq749_1, fq749_2, gq749, efq749_0, afq749_0, bfq749_0, efq749_1, afq749_1, bfq749_1, efq749_2, afq749_2, bfq749_2, uq749_0, uq749_1, uq749_2⟩ := wq749
                            refine ⟨_, gq749, ?_⟩
                            show gz gPP gGG gcn _ _ 195 [some (.ref m), some (.int (zi b)), some (.int (zi p)), some (.int (zi kk)), some (.int (zi zq55)), some (.int (zi (zq55 / 16))), some (.int (zi (zq55 % 16))), some (.int (zi 0)), some (.int (zi lf)), some (.int (zi go))] [] hq749 _
                            have sq749 := gSs.tr sh707 xq749 (by decide)
                            have s750 := (xq749.2.2.2.2.2 m 3 (by rw [tm]; decide)).trans lp706k0
                            have s751 := (xq749.2.2.2.2.2 m 44 (by rw [tm]; decide)).trans lp706k1
                            have s752 := (xq749.2.2.2.2.2 m 41 (by rw [tm]; decide)).trans lp706k2
                            have s753 := (xq749.2.2.2.2.2 m 42 (by rw [tm]; decide)).trans lp706k3
                            have s754 := (xq749.2.2.2.2.2 m 45 (by rw [tm]; decide)).trans lp706k4
                            have s755 := (xq749.2.2.2.2.2 m 36 (by rw [tm]; decide)).trans lp706k5
                            have s756 := (xq749.2.2.2.2.2 m 37 (by rw [tm]; decide)).trans ec744
                            have pr757 := gEl.fr xq749.2 (by decide) (fun _ => rfl) lp706k9
                            refine gz_s 1 (pc' := 196) (L' := [some (.ref m), some (.int (zi b)), some (.int (zi p)), some (.int (zi kk)), some (.int (zi zq55)), some (.int (zi (zq55 / 16))), some (.int (zi (zq55 % 16))), some (.int (zi 0)), some (.int (zi lf)), some (.int (zi go))]) (S' := [.ref m]) rfl ?_
                            refine gs_gtk rfl (by decide) rfl sq749.1 tm rfl rfl efq749_2 ?_
                            by_cases hc758 : ¬ (fq749_2 : Int) = 0
                            · refine gy_ifT (pc' := 206) rfl (by decide) (by decide) (by omega) hc758 ?_
                              refine gz_s 4 (pc' := 229) (L' := [some (.ref m), some (.int (zi b)), some (.int (zi p)), some (.int (zi kk)), some (.int (zi zq55)), some (.int (zi (zq55 / 16))), some (.int (zi (zq55 % 16))), some (.int (zi 0)), some (.int (zi lf)), some (.int (zi 0))]) (S' := [.int (zi 0)]) rfl ?_
                              refine gy_ifT (pc' := 238) rfl (by decide) (by decide) (by omega) (by first | (simp [zc]; done) | (simp only [zc]; omega)) ?_
                              refine gz_s 3 (pc' := 164) (L' := [some (.ref m), some (.int (zi b)), some (.int (zi p)), some (.int (zi kk)), some (.int (zi zq55)), some (.int (zi (zq55 / 16))), some (.int (zi (zq55 % 16))), some (.int (zi 0)), some (.int (zi lf)), some (.int (zi 0))]) (S' := []) rfl ?_
                              exact gz_wk (ihlp706 hq749 kk lf 0 fq749_0 fq749_1 fq749_2 (by omega) sq749 (by omega) (by omega) (by omega) (by omega) (by omega) (by omega) (by omega) (by omega) (by omega) (by omega) (by omega) s750 s751 s752 s753 s754 s755 efq749_0 efq749_1 efq749_2 pr757) (gLw.s (gLw.s (gLw.s (gLw.s (gLw.s (gLw.s (gLw.s (gLw.s (gLw.s (gLw.s gLw.z))))))))))
                            · refine gy_ifF rfl (by decide) (by decide) (by omega) hc758 ?_
                              refine gz_s 5 (pc' := 229) (L' := [some (.ref m), some (.int (zi b)), some (.int (zi p)), some (.int (zi kk)), some (.int (zi zq55)), some (.int (zi (zq55 / 16))), some (.int (zi (zq55 % 16))), some (.int (zi 0)), some (.int (zi lf)), some (.int (zi 1))]) (S' := [.int (zi 1)]) rfl ?_
                              refine gy_ifF rfl (by decide) (by decide) (by omega) (by first | (simp [zc]; done) | (simp only [zc]; omega)) ?_
                              refine gy_s 6 (pc' := 164) (L' := [some (.ref m), some (.int (zi b)), some (.int (zi p)), some (.int ((zi kk) + (zi 1))), some (.int (zi zq55)), some (.int (zi (zq55 / 16))), some (.int (zi (zq55 % 16))), some (.int (zi 0)), some (.int (zi lf)), some (.int (zi 1))]) (S' := []) (L2 := [some (.ref m), some (.int (zi b)), some (.int (zi p)), some (.int (zi (kk + 1))), some (.int (zi zq55)), some (.int (zi (zq55 / 16))), some (.int (zi (zq55 % 16))), some (.int (zi 0)), some (.int (zi lf)), some (.int (zi 1))]) (S2 := []) rfl (by simp only [zi_add, zi_sub, zi_mul, zi_neg, zi_and1, zi_and7, zi_and15, zi_and31, zi_and255]) (by simp only [zi_add, zi_sub, zi_mul, zi_neg, zi_and1, zi_and7, zi_and15, zi_and31, zi_and255]) ?_
                              exact gz_wk (ihlp706 hq749 (kk + 1) lf 1 fq749_0 fq749_1 fq749_2 (by omega) sq749 (by omega) (by omega) (by omega) (by omega) (by omega) (by omega) (by omega) (by omega) (by omega) (by omega) (by omega) s750 s751 s752 s753 s754 s755 efq749_0 efq749_1 efq749_2 pr757) (gLw.s (gLw.s (gLw.s (gLw.s (gLw.s (gLw.s (gLw.s (gLw.s (gLw.s (gLw.s gLw.z))))))))))
                  exact gz_wk (lp706 _ hq300 k (zq55 / 16) 1 fq55_0 fq55_1 fq300_0 (Nat.lt_succ_self _) sq300 (by omega) (by omega) (by omega) (by omega) (by omega) (by omega) (by omega) (by omega) (by omega) (by omega) (by omega) s301 s302 s303 s304 s305 s306 s307 s308 efq300_0 pr309) (gLw.s (gLw.s (gLw.s (gLw.s (gLw.s (gLw.s (gLw.s (gLw.s (gLw.s (gLw.s gLw.z))))))))))
                · refine gy_icF rfl (by decide) (by decide) (by omega) (by omega) hc705 ?_
                  refine gz_s 2 (pc' := 84) (L' := [some (.ref m), some (.int (zi b)), some (.int (zi p)), some (.int (zi k)), some (.int (zi zq55)), some (.int (zi (zq55 / 16))), some (.int (zi (zq55 % 16))), none, none, none]) (S' := [.int (zi (zq55 / 16)), .ref m]) rfl ?_
                  refine gz_call rfl (by decide) rfl (by decide) (by decide) (gcal_of rfl rfl rfl (Nat.le_of_ble_eq_true rfl) (gJ.recv (G := gGG) sq300.1 tm rfl rfl)) (mm_bits _ sq300.1 m tm (zq55 / 16) (by omega) fq55_0 s307 (by omega) fq55_1 s308 (by omega) sz s301 (by omega) fq300_0 efq300_0 (by omega) (by omega)) (fun q759 _ wq759 => ?_)
                  obtain ⟨pq759, oq759, hq759⟩ := q759
                  obtain ⟨xq759, zq759, fq759_0, fq759_1, fq759_2, gq759, aq759, bq759, efq759_0, afq759_0, bfq759_0, efq759_1, afq759_1, bfq759_1, efq759_2, afq759_2, bfq759_2, uq759_0, uq759_1, uq759_2⟩ := wq759
                  refine ⟨_, gq759, ?_⟩
                  show gz gPP gGG gcn _ _ 87 [some (.ref m), some (.int (zi b)), some (.int (zi p)), some (.int (zi k)), some (.int (zi zq55)), some (.int (zi (zq55 / 16))), some (.int (zi (zq55 % 16))), none, none, none] [.int (zi zq759)] hq759 _
                  have sq759 := gSs.tr sq300 xq759 (by decide)
                  have s760 := (xq759.2.2.2.2.2 m 3 (by rw [tm]; decide)).trans s301
                  have s761 := (xq759.2.2.2.2.2 m 44 (by rw [tm]; decide)).trans s302
                  have s762 := (xq759.2.2.2.2.2 m 41 (by rw [tm]; decide)).trans s303
                  have s763 := (xq759.2.2.2.2.2 m 42 (by rw [tm]; decide)).trans s304
                  have s764 := (xq759.2.2.2.2.2 m 45 (by rw [tm]; decide)).trans s305
                  have s765 := (xq759.2.2.2.2.2 m 36 (by rw [tm]; decide)).trans s306
                  have pr766 := gEl.fr xq759.2 (by decide) (fun _ => rfl) pr309
                  refine gz_s 2 (pc' := 90) (L' := [some (.ref m), some (.int (zi b)), some (.int (zi p)), some (.int (zi k)), some (.int (zi zq55)), some (.int (zi (zq55 / 16))), some (.int (zi (zq55 % 16))), some (.int (zi zq759)), none, none]) (S' := [.ref m]) rfl ?_
                  refine gs_gtk rfl (by decide) rfl sq759.1 tm rfl rfl efq759_2 ?_
                  by_cases hc767 : (fq759_2 : Int) = 0
                  · refine gy_ifT (pc' := 97) rfl (by decide) (by decide) (by omega) hc767 ?_
                    refine gz_s 3 (pc' := 101) (L' := [some (.ref m), some (.int (zi b)), some (.int (zi p)), some (.int (zi k)), some (.int (zi zq55)), some (.int (zi (zq55 / 16))), some (.int (zi (zq55 % 16))), some (.int (zi zq759)), none, none]) (S' := [.int (zi (zq55 / 16)), .int (zi 1), .ref m]) rfl ?_
                    refine gy_sh1 rfl (by decide) (by omega) (fun z768 az768 bz768 cz768 => ?_)
                    refine gy_s 2 (pc' := 105) (L' := [some (.ref m), some (.int (zi b)), some (.int (zi p)), some (.int (zi k)), some (.int (zi zq55)), some (.int (zi (zq55 / 16))), some (.int (zi (zq55 % 16))), some (.int (zi zq759)), none, none]) (S' := [.int ((zi z768) + (zi zq759)), .ref m]) (L2 := [some (.ref m), some (.int (zi b)), some (.int (zi p)), some (.int (zi k)), some (.int (zi zq55)), some (.int (zi (zq55 / 16))), some (.int (zi (zq55 % 16))), some (.int (zi zq759)), none, none]) (S2 := [.int (zi (z768 + zq759)), .ref m]) rfl (by simp only [zi_add, zi_sub, zi_mul, zi_neg, zi_and1, zi_and7, zi_and15, zi_and31, zi_and255]) (by simp only [zi_add, zi_sub, zi_mul, zi_neg, zi_and1, zi_and7, zi_and15, zi_and31, zi_and255]) ?_
                    refine gs_put rfl (by decide) rfl sq759 tm rfl rfl rfl rfl (Or.inl rfl) (by decide) (by omega) (by omega) (fun h769 sh769 eh769 fh769 => ?_)
                    have pr770 := gEl.pt fh769 tm (by decide) pr766
                    have s771 := (fh769 m 3 (fun q => absurd q.2 (by decide))).trans s760
                    have s772 := (fh769 m 44 (fun q => absurd q.2 (by decide))).trans s761
                    have s773 := (fh769 m 41 (fun q => absurd q.2 (by decide))).trans s762
                    have s774 := (fh769 m 42 (fun q => absurd q.2 (by decide))).trans s763
                    have s775 := (fh769 m 36 (fun q => absurd q.2 (by decide))).trans s765
                    have s776 := (fh769 m 47 (fun q => absurd q.2 (by decide))).trans efq759_0
                    have s777 := (fh769 m 48 (fun q => absurd q.2 (by decide))).trans efq759_1
                    have s778 := (fh769 m 46 (fun q => absurd q.2 (by decide))).trans efq759_2
                    refine gz_s 2 (pc' := 5) (L' := [some (.ref m), some (.int (zi b)), some (.int (zi p)), some (.int (zi k)), some (.int (zi zq55)), some (.int (zi (zq55 / 16))), some (.int (zi (zq55 % 16))), some (.int (zi zq759)), none, none]) (S' := []) rfl ?_
                    exact gz_wk (ihlp2 h769 k fq759_0 fq759_1 fq759_2 (z768 + zq759) (by omega) sh769 (by omega) (by omega) (by omega) (by omega) (by omega) (by omega) (by omega) (by omega) s771 s772 s773 s774 s776 s777 s778 eh769 pr770) (gLw.s (gLw.s (gLw.s (gLw.s (gLw.n (gLw.n (gLw.n (gLw.n (gLw.n (gLw.n gLw.z))))))))))
                  · refine gy_ifF rfl (by decide) (by decide) (by omega) hc767 ?_
                    exact gz_end (I := .return_) (len := 1) rfl (Or.inl rfl) ⟨sq759, fq759_0, fq759_1, fq759_2, rfl, efq759_0, (by omega), (by omega), efq759_1, (by omega), (by omega), efq759_2, (by omega), (by omega), (by omega), (by omega), (by omega)⟩
            · refine gy_ifF rfl (by decide) (by decide) (by omega) hc310 ?_
              exact gz_end (I := .return_) (len := 1) rfl (Or.inl rfl) ⟨sq300, fq55_0, fq55_1, fq300_0, rfl, s307, (by omega), (by omega), s308, (by omega), (by omega), efq300_0, (by omega), (by omega), (by omega), (by omega), (by omega)⟩
  exact gz_wk (lp2 _ h fr a0 k0 u0 z1 (Nat.lt_succ_self _) hS (by omega) (by omega) (by omega) (by omega) (by omega) (by omega) (by omega) (by omega) esz elw efr ett ea0 ek0 eu0 ez1 el0) (gLw.s (gLw.s (gLw.s (gLw.s (gLw.n (gLw.n (gLw.n (gLw.n (gLw.n (gLw.n gLw.z))))))))))
