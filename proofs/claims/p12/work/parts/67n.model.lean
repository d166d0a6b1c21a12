/-! ===== the model: methods (by program) ===== -/
set_option maxRecDepth 20000 in
set_option maxHeartbeats 4000000 in
theorem mm_sizeOfNumber (d : Nat) {ty : Nat → Nat} {h : gH} (hJ : gJ rT 1027 ty h) (v : Int) (rv : (-8191) ≤ v ∧ v ≤ 8191) : gz gPP gGG gcn (d + 0) gt195 0 (gent [.int (zi v)] 3) [] h (fun q _ => gSs rT 1027 ty [] h q.2.2 ∧ ∃ z : Int, gfin gt195 q.1 q.2.1 = some (some (.int (zi z))) ∧ 0 ≤ z ∧ z ≤ 13) := by
  have hS : gSs rT 1027 ty [] h h := gSs.rf hJ
  refine gz_s 1 (pc' := 1) (L' := [some (.int (zi v)), none, none]) (S' := [.int (zi v)]) rfl ?_
  by_cases hc1 : (0 : Int) ≤ v
  · refine gy_ifT (pc' := 9) rfl (by decide) (by decide) (by omega) hc1 ?_
    refine gz_s 4 (pc' := 13) (L' := [some (.int (zi v)), some (.int (zi v)), some (.int (zi 0))]) (S' := []) rfl ?_
    have lp2 : ∀ (fu : Nat) (h3 : gH) (n : Int), (14 - n).toNat < fu → gSs rT 1027 ty [] h h3 → (0 ≤ n ∧ n ≤ 13) → gz gPP gGG gcn (d + 0) gt195 13 [some (.int (zi v)), some (.int (zi v)), some (.int (zi n))] [] h3 (fun q _ => gSs rT 1027 ty [] h q.2.2 ∧ ∃ z : Int, gfin gt195 q.1 q.2.1 = some (some (.int (zi z))) ∧ 0 ≤ z ∧ z ≤ 13) := by
      intro fu
      induction fu with
      | zero => intro h3 n hm; exact absurd hm (Nat.not_lt_zero _)
      | succ fu ihlp2 =>
        intro h3 n lp2m sh3 lp2f0 
        have hz13 : n = 13 → v / 2 ^ (n).toNat = 0 := fun e => by rw [e]; show v / 8192 = 0; omega
        refine gz_s 2 (pc' := 15) (L' := [some (.int (zi v)), some (.int (zi v)), some (.int (zi n))]) (S' := [.int (zi n), .int (zi v)]) rfl ?_
        refine gy_shr rfl (by decide) (by omega) (by omega) ?_
        have hx4 := zsh_b (a := v) (n := n) (by omega)
        by_cases hc5 : (v / 2 ^ (n).toNat : Int) ≤ 0
        · refine gy_ifT (pc' := 25) rfl (by decide) (by decide) (by omega) hc5 ?_
          refine gz_s 1 (pc' := 26) (L' := [some (.int (zi v)), some (.int (zi v)), some (.int (zi n))]) (S' := [.int (zi n)]) rfl ?_
          exact gz_end (I := .ireturn) (len := 1) rfl (Or.inl rfl) ⟨sh3, n, rfl, (by omega), (by omega)⟩
        · refine gy_ifF rfl (by decide) (by decide) (by omega) hc5 ?_
          refine gy_s 2 (pc' := 13) (L' := [some (.int (zi v)), some (.int (zi v)), some (.int ((zi n) + zi 1))]) (S' := []) (L2 := [some (.int (zi v)), some (.int (zi v)), some (.int (zi (n + 1)))]) (S2 := []) rfl (by simp only [zi_add, zi_sub, zi_mul, zi_neg, zi_and1, zi_and7, zi_and15, zi_and31, zi_and255]) (by simp only [zi_add, zi_sub, zi_mul, zi_neg, zi_and1, zi_and7, zi_and15, zi_and31, zi_and255]) ?_
          exact gz_wk (ihlp2 h3 (n + 1) (by omega) sh3 (by omega) ) (gLw.s (gLw.s (gLw.s gLw.z)))
    exact gz_wk (lp2 _ h 0 (Nat.lt_succ_self _) hS (by omega) ) (gLw.s (gLw.s (gLw.s gLw.z)))
  · refine gy_ifF rfl (by decide) (by decide) (by omega) hc1 ?_
    refine gy_s 6 (pc' := 13) (L' := [some (.int (zi v)), some (.int (-(zi v))), some (.int (zi 0))]) (S' := []) (L2 := [some (.int (zi v)), some (.int (zi (-v))), some (.int (zi 0))]) (S2 := []) rfl (by simp only [zi_add, zi_sub, zi_mul, zi_neg, zi_and1, zi_and7, zi_and15, zi_and31, zi_and255]) (by simp only [zi_add, zi_sub, zi_mul, zi_neg, zi_and1, zi_and7, zi_and15, zi_and31, zi_and255]) ?_
    have lp6 : ∀ (fu : Nat) (h7 : gH) (n : Int), (14 - n).toNat < fu → gSs rT 1027 ty [] h h7 → (0 ≤ n ∧ n ≤ 13) → gz gPP gGG gcn (d + 0) gt195 13 [some (.int (zi v)), some (.int (zi (-v))), some (.int (zi n))] [] h7 (fun q _ => gSs rT 1027 ty [] h q.2.2 ∧ ∃ z : Int, gfin gt195 q.1 q.2.1 = some (some (.int (zi z))) ∧ 0 ≤ z ∧ z ≤ 13) := by
      intro fu
      induction fu with
      | zero => intro h7 n hm; exact absurd hm (Nat.not_lt_zero _)
      | succ fu ihlp6 =>
        intro h7 n lp6m sh7 lp6f0 
        have hz13 : n = 13 → (-v) / 2 ^ (n).toNat = 0 := fun e => by rw [e]; show (-v) / 8192 = 0; omega
        refine gz_s 2 (pc' := 15) (L' := [some (.int (zi v)), some (.int (zi (-v))), some (.int (zi n))]) (S' := [.int (zi n), .int (zi (-v))]) rfl ?_
        refine gy_shr rfl (by decide) (by omega) (by omega) ?_
        have hx8 := zsh_b (a := -v) (n := n) (by omega)
        by_cases hc9 : ((-v) / 2 ^ (n).toNat : Int) ≤ 0
        · refine gy_ifT (pc' := 25) rfl (by decide) (by decide) (by omega) hc9 ?_
          refine gz_s 1 (pc' := 26) (L' := [some (.int (zi v)), some (.int (zi (-v))), some (.int (zi n))]) (S' := [.int (zi n)]) rfl ?_
          exact gz_end (I := .ireturn) (len := 1) rfl (Or.inl rfl) ⟨sh7, n, rfl, (by omega), (by omega)⟩
        · refine gy_ifF rfl (by decide) (by decide) (by omega) hc9 ?_
          refine gy_s 2 (pc' := 13) (L' := [some (.int (zi v)), some (.int (zi (-v))), some (.int ((zi n) + zi 1))]) (S' := []) (L2 := [some (.int (zi v)), some (.int (zi (-v))), some (.int (zi (n + 1)))]) (S2 := []) rfl (by simp only [zi_add, zi_sub, zi_mul, zi_neg, zi_and1, zi_and7, zi_and15, zi_and31, zi_and255]) (by simp only [zi_add, zi_sub, zi_mul, zi_neg, zi_and1, zi_and7, zi_and15, zi_and31, zi_and255]) ?_
          exact gz_wk (ihlp6 h7 (n + 1) (by omega) sh7 (by omega) ) (gLw.s (gLw.s (gLw.s gLw.z)))
    exact gz_wk (lp6 _ h 0 (Nat.lt_succ_self _) hS (by omega) ) (gLw.s (gLw.s (gLw.s gLw.z)))
set_option maxRecDepth 20000 in
set_option maxHeartbeats 4000000 in
theorem mm_shifted (d : Nat) {ty : Nat → Nat} {h : gH} (hJ : gJ rT 1027 ty h) (m : Nat) (tm : ty m = 1) (p : Int) (rp : 0 ≤ p ∧ p ≤ 1023) (b : Int) (rb : 0 ≤ b ∧ b ≤ 3) : gz gPP gGG gcn (d + 0) gt199 0 (gent [.ref m, .int (zi p), .int (zi b)] 4) [] h (fun q _ => gSs rT 1027 ty [] h q.2.2 ∧ ∃ z : Int, gfin gt199 q.1 q.2.1 = some (some (.int (zi z))) ∧ (-2048) ≤ z ∧ z ≤ 2048) := by
  have hS : gSs rT 1027 ty [] h h := gSs.rf hJ
  refine gz_s 1 (pc' := 1) (L' := [some (.ref m), some (.int (zi p)), some (.int (zi b)), none]) (S' := [.ref m]) rfl ?_
  refine gs_gtr rfl (by decide) rfl hS.1 tm rfl rfl rfl (fun c1 ec1 tc1 => ?_)
  refine gz_s 1 (pc' := 5) (L' := [some (.ref m), some (.int (zi p)), some (.int (zi b)), none]) (S' := [.int (zi p), .ref c1]) rfl ?_
  have hl2 : 1024 ≤ h.2.2.2.1 c1 ∧ h.2.2.2.1 c1 ≤ 1024 := gJ.rowl (G := gGG) hS.1 tc1 rfl
  refine gs_ald rfl (by decide) hS.1 tc1 rfl rfl rfl (by decide) (fun _ => rfl) (by omega) (by omega) (fun z3 ez3 az3 bz3 => ?_)
  refine gz_s 4 (pc' := 10) (L' := [some (.ref m), some (.int (zi p)), some (.int (zi b)), some (.int (zi z3))]) (S' := [.int (zi b), .int (zi 1), .int (zi z3)]) rfl ?_
  refine gy_sh1 rfl (by decide) (by omega) (fun z4 az4 bz4 cz4 => ?_)
  refine gy_dvv rfl (by decide) (by omega) (by omega) (fun z5 az5 bz5 cz5 => ?_)
  exact gz_end (I := .ireturn) (len := 1) rfl (Or.inl rfl) ⟨hS, z5, rfl, (by omega), (by omega)⟩
set_option maxRecDepth 20000 in
set_option maxHeartbeats 4000000 in
theorem mm_transform (d : Nat) {ty : Nat → Nat} {h : gH} (hJ : gJ rT 1027 ty h) (m : Nat) (tm : ty m = 1) (cw : Int) (ecw : h.2.2.2.2 m 50 = .int (zi cw)) (rcw : 1 ≤ cw ∧ cw ≤ 32) (ch : Int) (ech : h.2.2.2.2 m 51 = .int (zi ch)) (rch : 1 ≤ ch ∧ ch ≤ 32) (hyot : gOt ty 64 h) : gz gPP gGG gcn (d + 1) gt185 0 (gent [.ref m] 10) [] h (fun q _ => gSs rT 1027 ty [1064, 33999] h q.2.2 ∧ gfin gt185 q.1 q.2.1 = some none) := by
  have hS : gSs rT 1027 ty [1064, 33999] h h := gSs.rf hJ
  refine gz_s 1 (pc' := 1) (L' := [some (.ref m), none, none, none, none, none, none, none, none, none]) (S' := [.ref m]) rfl ?_
  refine gs_gtk rfl (by decide) rfl hS.1 tm rfl rfl ecw ?_
  refine gz_s 1 (pc' := 6) (L' := [some (.ref m), none, none, none, none, none, none, none, none, none]) (S' := [.int (zi 8), .int (zi cw)]) rfl ?_
  refine gz_call rfl (by decide) rfl (by decide) (by decide) (gcal_of rfl rfl rfl (Nat.le_of_ble_eq_true rfl) rfl) (mm_up _ hS.1 cw (by omega) 8 (by omega) ) (fun q1 _ wq1 => ?_)
  obtain ⟨pq1, oq1, hq1⟩ := q1
  obtain ⟨xq1, zq1, gq1, aq1, bq1, uq1_0⟩ := wq1
  subst uq1_0
  refine ⟨_, gq1, ?_⟩
  show gz gPP gGG gcn _ _ 9 [some (.ref m), none, none, none, none, none, none, none, none, none] [.int (zi (zup cw 8))] hq1 _
  have sq1 := gSs.tr hS xq1 (by decide)
  have s2 := (xq1.2.2.2.2.2 m 50 (by rw [tm]; decide)).trans ecw
  have s3 := (xq1.2.2.2.2.2 m 51 (by rw [tm]; decide)).trans ech
  have pr4 := gOt.fr xq1.2 (by decide) hyot
  have zu1 : zup cw 8 = if cw % 8 = 0 then cw / 8 else cw / 8 + 1 := rfl
  have zu2 : zup ch 8 = if ch % 8 = 0 then ch / 8 else ch / 8 + 1 := rfl
  refine gz_s 4 (pc' := 13) (L' := [some (.ref m), some (.int (zi (zup cw 8))), none, none, none, none, none, none, none, none]) (S' := [.ref m, .int (zi (zup cw 8)), .ref m]) rfl ?_
  refine gs_gtk rfl (by decide) rfl sq1.1 tm rfl rfl s3 ?_
  refine gz_s 1 (pc' := 18) (L' := [some (.ref m), some (.int (zi (zup cw 8))), none, none, none, none, none, none, none, none]) (S' := [.int (zi 8), .int (zi ch), .int (zi (zup cw 8)), .ref m]) rfl ?_
  refine gz_call rfl (by decide) rfl (by decide) (by decide) (gcal_of rfl rfl rfl (Nat.le_of_ble_eq_true rfl) rfl) (mm_up _ sq1.1 ch (by omega) 8 (by omega) ) (fun q5 _ wq5 => ?_)
  obtain ⟨pq5, oq5, hq5⟩ := q5
  obtain ⟨xq5, zq5, gq5, aq5, bq5, uq5_0⟩ := wq5
  subst uq5_0
  refine ⟨_, gq5, ?_⟩
  show gz gPP gGG gcn _ _ 21 [some (.ref m), some (.int (zi (zup cw 8))), none, none, none, none, none, none, none, none] [.int (zi (zup ch 8)), .int (zi (zup cw 8)), .ref m] hq5 _
  have sq5 := gSs.tr sq1 xq5 (by decide)
  have s6 := (xq5.2.2.2.2.2 m 50 (by rw [tm]; decide)).trans s2
  have s7 := (xq5.2.2.2.2.2 m 51 (by rw [tm]; decide)).trans s3
  have pr8 := gOt.fr xq5.2 (by decide) pr4
  have hx9 := zx_f (a := zup cw 8) (b := zup ch 8) (A := 4) (B := 4) (by omega) (by omega) (by omega) (by omega)
  refine gy_s 1 (pc' := 22) (L' := [some (.ref m), some (.int (zi (zup cw 8))), none, none, none, none, none, none, none, none]) (S' := [.int ((zi (zup cw 8)) * (zi (zup ch 8))), .ref m]) (L2 := [some (.ref m), some (.int (zi (zup cw 8))), none, none, none, none, none, none, none, none]) (S2 := [.int (zi ((zup cw 8) * (zup ch 8))), .ref m]) rfl (by simp only [zi_add, zi_sub, zi_mul, zi_neg, zi_and1, zi_and7, zi_and15, zi_and31, zi_and255]) (by simp only [zi_add, zi_sub, zi_mul, zi_neg, zi_and1, zi_and7, zi_and15, zi_and31, zi_and255]) ?_
  refine gs_put rfl (by decide) rfl sq5 tm rfl rfl rfl rfl (Or.inl rfl) (by decide) (by omega) (by omega) (fun h10 sh10 eh10 fh10 => ?_)
  have pr11 := gOt.pt fh10 tm (by decide) pr8
  have s12 := (fh10 m 50 (fun q => absurd q.2 (by decide))).trans s6
  have s13 := (fh10 m 51 (fun q => absurd q.2 (by decide))).trans s7
  refine gz_s 2 (pc' := 27) (L' := [some (.ref m), some (.int (zi (zup cw 8))), some (.int (zi 0)), none, none, none, none, none, none, none]) (S' := []) rfl ?_
  have lp14 : ∀ (fu : Nat) (h15 : gH) (b : Int), (17 - b).toNat < fu → gSs rT 1027 ty [1064, 33999] h h15 → (0 ≤ b ∧ b ≤ 16) → h15.2.2.2.2 m 50 = .int (zi cw) → h15.2.2.2.2 m 51 = .int (zi ch) → h15.2.2.2.2 m 64 = .int (zi ((zup cw 8) * (zup ch 8))) → gOt ty 64 h15 → gz gPP gGG gcn (d + 1) gt185 27 [some (.ref m), some (.int (zi (zup cw 8))), some (.int (zi b)), none, none, none, none, none, none, none] [] h15 (fun q _ => gSs rT 1027 ty [1064, 33999] h q.2.2 ∧ gfin gt185 q.1 q.2.1 = some none) := by
    intro fu
    induction fu with
    | zero => intro h15 b hm; exact absurd hm (Nat.not_lt_zero _)
    | succ fu ihlp14 =>
      intro h15 b lp14m sh15 lp14f0 lp14k0 lp14k1 lp14k2 lp14k3
      refine gz_s 2 (pc' := 29) (L' := [some (.ref m), some (.int (zi (zup cw 8))), some (.int (zi b)), none, none, none, none, none, none, none]) (S' := [.ref m, .int (zi b)]) rfl ?_
      refine gs_gtk rfl (by decide) rfl sh15.1 tm rfl rfl lp14k2 ?_
      by_cases hc16 : ((zup cw 8) * (zup ch 8) : Int) ≤ b
      · refine gy_icT (pc' := 221) rfl (by decide) (by decide) (by omega) (by omega) hc16 ?_
        exact gz_end (I := .return_) (len := 1) rfl (Or.inl rfl) ⟨sh15, rfl⟩
      · refine gy_icF rfl (by decide) (by decide) (by omega) (by omega) hc16 ?_
        refine gz_s 2 (pc' := 37) (L' := [some (.ref m), some (.int (zi (zup cw 8))), some (.int (zi b)), some (.int (zi 0)), none, none, none, none, none, none]) (S' := []) rfl ?_
        have lp17 : ∀ (fu : Nat) (h18 : gH) (k : Int), (65 - k).toNat < fu → gSs rT 1027 ty [1064, 33999] h h18 → (0 ≤ k ∧ k ≤ 64) → h18.2.2.2.2 m 50 = .int (zi cw) → h18.2.2.2.2 m 51 = .int (zi ch) → h18.2.2.2.2 m 64 = .int (zi ((zup cw 8) * (zup ch 8))) → gOt ty 64 h18 → gz gPP gGG gcn (d + 1) gt185 37 [some (.ref m), some (.int (zi (zup cw 8))), some (.int (zi b)), some (.int (zi k)), none, none, none, none, none, none] [] h18 (fun q _ => gSs rT 1027 ty [1064, 33999] h q.2.2 ∧ gfin gt185 q.1 q.2.1 = some none) := by
          intro fu
          induction fu with
          | zero => intro h18 k hm; exact absurd hm (Nat.not_lt_zero _)
          | succ fu ihlp17 =>
            intro h18 k lp17m sh18 lp17f0 lp17k0 lp17k1 lp17k2 lp17k3
            refine gz_s 2 (pc' := 40) (L' := [some (.ref m), some (.int (zi (zup cw 8))), some (.int (zi b)), some (.int (zi k)), none, none, none, none, none, none]) (S' := [.int (zi 64), .int (zi k)]) rfl ?_
            by_cases hc19 : (64 : Int) ≤ k
            · refine gy_icT (pc' := 215) rfl (by decide) (by decide) (by omega) (by omega) hc19 ?_
              refine gy_s 2 (pc' := 27) (L' := [some (.ref m), some (.int (zi (zup cw 8))), some (.int ((zi b) + zi 1)), some (.int (zi k)), none, none, none, none, none, none]) (S' := []) (L2 := [some (.ref m), some (.int (zi (zup cw 8))), some (.int (zi (b + 1))), some (.int (zi k)), none, none, none, none, none, none]) (S2 := []) rfl (by simp only [zi_add, zi_sub, zi_mul, zi_neg, zi_and1, zi_and7, zi_and15, zi_and31, zi_and255]) (by simp only [zi_add, zi_sub, zi_mul, zi_neg, zi_and1, zi_and7, zi_and15, zi_and31, zi_and255]) ?_
              exact gz_wk (ihlp14 h18 (b + 1) (by omega) sh18 (by omega) lp17k0 lp17k1 lp17k2 lp17k3) (gLw.s (gLw.s (gLw.s (gLw.n (gLw.n (gLw.n (gLw.n (gLw.n (gLw.n (gLw.n gLw.z))))))))))
            · refine gy_icF rfl (by decide) (by decide) (by omega) (by omega) hc19 ?_
              refine gz_s 4 (pc' := 49) (L' := [some (.ref m), some (.int (zi (zup cw 8))), some (.int (zi b)), some (.int (zi k)), some (.long (zl 0)), none, some (.int (zi 0)), none, none, none]) (S' := []) rfl ?_
              have lp20 : ∀ (fu : Nat) (h21 : gH) (s1 : Int) (y : Int), (9 - y).toNat < fu → gSs rT 1027 ty [1064, 33999] h h21 → ((-137438953472) ≤ s1 ∧ s1 ≤ 137438953472) → (0 ≤ y ∧ y ≤ 8) → (-(17179869184 * y) ≤ s1) → (s1 ≤ 17179869184 * y) → h21.2.2.2.2 m 50 = .int (zi cw) → h21.2.2.2.2 m 51 = .int (zi ch) → h21.2.2.2.2 m 64 = .int (zi ((zup cw 8) * (zup ch 8))) → gOt ty 64 h21 → gz gPP gGG gcn (d + 1) gt185 49 [some (.ref m), some (.int (zi (zup cw 8))), some (.int (zi b)), some (.int (zi k)), some (.long (zl s1)), none, some (.int (zi y)), none, none, none] [] h21 (fun q _ => gSs rT 1027 ty [1064, 33999] h q.2.2 ∧ gfin gt185 q.1 q.2.1 = some none) := by
                intro fu
                induction fu with
                | zero => intro h21 s1 y hm; exact absurd hm (Nat.not_lt_zero _)
                | succ fu ihlp20 =>
                  intro h21 s1 y lp20m sh21 lp20f0 lp20f1 lp20f2 lp20f3 lp20k0 lp20k1 lp20k2 lp20k3
                  refine gz_s 2 (pc' := 53) (L' := [some (.ref m), some (.int (zi (zup cw 8))), some (.int (zi b)), some (.int (zi k)), some (.long (zl s1)), none, some (.int (zi y)), none, none, none]) (S' := [.int (zi 8), .int (zi y)]) rfl ?_
                  by_cases hc22 : (8 : Int) ≤ y
                  · refine gy_icT (pc' := 137) rfl (by decide) (by decide) (by omega) (by omega) hc22 ?_
                    refine gz_s 1 (pc' := 138) (L' := [some (.ref m), some (.int (zi (zup cw 8))), some (.int (zi b)), some (.int (zi k)), some (.long (zl s1)), none, some (.int (zi y)), none, none, none]) (S' := [.ref m]) rfl ?_
                    refine gs_gtr rfl (by decide) rfl sh21.1 tm rfl rfl rfl (fun c23 ec23 tc23 => ?_)
                    refine gz_s 1 (pc' := 142) (L' := [some (.ref m), some (.int (zi (zup cw 8))), some (.int (zi b)), some (.int (zi k)), some (.long (zl s1)), none, some (.int (zi y)), none, none, none]) (S' := [.int (zi k), .ref c23]) rfl ?_
                    have pr24 := lp20k3 k (by omega) (by omega)
                    have hl25 : 64 ≤ h21.2.2.2.1 c23 ∧ h21.2.2.2.1 c23 ≤ 64 := gJ.rowl (G := gGG) sh21.1 tc23 rfl
                    refine gs_ald rfl (by decide) sh21.1 tc23 rfl rfl rfl (by decide) (fun _ => rfl) (by omega) (by omega) (fun z26 ez26 az26 bz26 => ?_)
                    have he27 := pr24 c23 z26 tc23 ez26 (by omega) (by omega)
                    refine gy_i2l rfl (by decide) (by omega) ?_
                    refine gz_1 rfl (by decide) rfl rfl (pc' := 147) (S' := [.long (zl 67108864), .long (zl z26)]) (h' := h21) rfl ?_
                    refine gy_s 4 (pc' := 153) (L' := [some (.ref m), some (.int (zi (zup cw 8))), some (.int (zi b)), some (.int (zi k)), some (.long (zl s1)), none, some (.long ((zl z26) * (zl 67108864))), none, none, none]) (S' := [.long (zl 0), .long (zl s1)]) (L2 := [some (.ref m), some (.int (zi (zup cw 8))), some (.int (zi b)), some (.int (zi k)), some (.long (zl s1)), none, some (.long (zl (z26 * 67108864))), none, none, none]) (S2 := [.long (zl 0), .long (zl s1)]) rfl (by simp only [zi_add, zi_sub, zi_mul, zi_neg, zi_and1, zi_and7, zi_and15, zi_and31, zi_and255, zl_add, zl_sub, zl_mul, zl_neg]) (by simp only [zi_add, zi_sub, zi_mul, zi_neg, zi_and1, zi_and7, zi_and15, zi_and31, zi_and255, zl_add, zl_sub, zl_mul, zl_neg]) ?_
                    refine gy_lcmp rfl (by decide) (by omega) (by omega) (fun z28 az28 bz28 cz28 => ?_)
                    by_cases hc29 : (0 : Int) ≤ z28
                    · refine gy_ifT (pc' := 177) rfl (by decide) (by decide) (by omega) hc29 ?_
                      refine gz_1 rfl (by decide) rfl rfl (pc' := 180) (S' := [.long (zl 2)]) (h' := h21) rfl ?_
                      refine gy_s 4 (pc' := 186) (L' := [some (.ref m), some (.int (zi (zup cw 8))), some (.int (zi b)), some (.int (zi k)), some (.long (zl s1)), none, some (.long (zl (z26 * 67108864))), none, none, none]) (S' := [.long (((zl 2) * (zl s1)) + (zl (z26 * 67108864)))]) (L2 := [some (.ref m), some (.int (zi (zup cw 8))), some (.int (zi b)), some (.int (zi k)), some (.long (zl s1)), none, some (.long (zl (z26 * 67108864))), none, none, none]) (S2 := [.long (zl ((2 * s1) + (z26 * 67108864)))]) rfl (by simp only [zi_add, zi_sub, zi_mul, zi_neg, zi_and1, zi_and7, zi_and15, zi_and31, zi_and255, zl_add, zl_sub, zl_mul, zl_neg]) (by simp only [zi_add, zi_sub, zi_mul, zi_neg, zi_and1, zi_and7, zi_and15, zi_and31, zi_and255, zl_add, zl_sub, zl_mul, zl_neg]) ?_
                      refine gz_1 rfl (by decide) rfl rfl (pc' := 189) (S' := [.long (zl 2), .long (zl ((2 * s1) + (z26 * 67108864)))]) (h' := h21) rfl ?_
                      refine gy_s 2 (pc' := 192) (L' := [some (.ref m), some (.int (zi (zup cw 8))), some (.int (zi b)), some (.int (zi k)), some (.long (zl s1)), none, some (.long (zl (z26 * 67108864))), none, none, none]) (S' := [.long ((zl 2) * (zl (z26 * 67108864))), .long (zl ((2 * s1) + (z26 * 67108864)))]) (L2 := [some (.ref m), some (.int (zi (zup cw 8))), some (.int (zi b)), some (.int (zi k)), some (.long (zl s1)), none, some (.long (zl (z26 * 67108864))), none, none, none]) (S2 := [.long (zl (2 * (z26 * 67108864))), .long (zl ((2 * s1) + (z26 * 67108864)))]) rfl (by simp only [zi_add, zi_sub, zi_mul, zi_neg, zi_and1, zi_and7, zi_and15, zi_and31, zi_and255, zl_add, zl_sub, zl_mul, zl_neg]) (by simp only [zi_add, zi_sub, zi_mul, zi_neg, zi_and1, zi_and7, zi_and15, zi_and31, zi_and255, zl_add, zl_sub, zl_mul, zl_neg]) ?_
                      have zq := zq_b (N := 2 * s1) (b := z26 * 67108864) (by omega) (by omega) (by omega)
                      refine gy_ldiv rfl (by decide) (by omega) (by omega) ?_
                      have hd30 := zd_f (x := (2 * s1) + (z26 * 67108864)) (y := 2 * (z26 * 67108864)) (by omega) (by omega)
                      refine gz_s 2 (pc' := 196) (L' := [some (.ref m), some (.int (zi (zup cw 8))), some (.int (zi b)), some (.int (zi k)), some (.long (zl s1)), none, some (.long (zl (z26 * 67108864))), none, some (.long (zl (((2 * s1) + (z26 * 67108864)) / (2 * (z26 * 67108864))))), none]) (S' := [.ref m]) rfl ?_
                      refine gs_gtr rfl (by decide) rfl sh21.1 tm rfl rfl rfl (fun c31 ec31 tc31 => ?_)
                      refine gy_s 6 (pc' := 207) (L' := [some (.ref m), some (.int (zi (zup cw 8))), some (.int (zi b)), some (.int (zi k)), some (.long (zl s1)), none, some (.long (zl (z26 * 67108864))), none, some (.long (zl (((2 * s1) + (z26 * 67108864)) / (2 * (z26 * 67108864))))), none]) (S' := [.long (zl (((2 * s1) + (z26 * 67108864)) / (2 * (z26 * 67108864)))), .int (((zi 64) * (zi b)) + (zi k)), .ref c31]) (L2 := [some (.ref m), some (.int (zi (zup cw 8))), some (.int (zi b)), some (.int (zi k)), some (.long (zl s1)), none, some (.long (zl (z26 * 67108864))), none, some (.long (zl (((2 * s1) + (z26 * 67108864)) / (2 * (z26 * 67108864))))), none]) (S2 := [.long (zl (((2 * s1) + (z26 * 67108864)) / (2 * (z26 * 67108864)))), .int (zi ((64 * b) + k)), .ref c31]) rfl (by simp only [zi_add, zi_sub, zi_mul, zi_neg, zi_and1, zi_and7, zi_and15, zi_and31, zi_and255, zl_add, zl_sub, zl_mul, zl_neg]) (by simp only [zi_add, zi_sub, zi_mul, zi_neg, zi_and1, zi_and7, zi_and15, zi_and31, zi_and255, zl_add, zl_sub, zl_mul, zl_neg]) ?_
                      refine gy_l2i rfl (by decide) ?_
                      have hl32 : 1024 ≤ h21.2.2.2.1 c31 ∧ h21.2.2.2.1 c31 ≤ 1024 := gJ.rowl (G := gGG) sh21.1 tc31 rfl
                      refine gs_ast rfl (by decide) sh21 tc31 rfl rfl rfl (by decide) (fun _ => rfl) (by omega) (by omega) (fun _ => (by decide : (33999 : Nat) ∈ ([1064, 33999] : List Nat))) (by omega) (by omega) (fun h33 sh33 eh33 fh33 => ?_)
                      have pr34 := gOt.pt fh33 tc31 (by decide) lp20k3
                      have pr35 := gEl.pt fh33 tc31 (by decide) pr24
                      have s36 := (fh33 m 50 (fun q => absurd (((tm).symm.trans (congrArg ty q.1)).trans tc31) (by decide))).trans lp20k0
                      have s37 := (fh33 m 51 (fun q => absurd (((tm).symm.trans (congrArg ty q.1)).trans tc31) (by decide))).trans lp20k1
                      have s38 := (fh33 m 64 (fun q => absurd (((tm).symm.trans (congrArg ty q.1)).trans tc31) (by decide))).trans lp20k2
                      have s39 := (fh33 m 65 (fun q => absurd (((tm).symm.trans (congrArg ty q.1)).trans tc31) (by decide))).trans ec23
                      have s40 := (fh33 m 63 (fun q => absurd (((tm).symm.trans (congrArg ty q.1)).trans tc31) (by decide))).trans ec31
                      refine gy_s 2 (pc' := 37) (L' := [some (.ref m), some (.int (zi (zup cw 8))), some (.int (zi b)), some (.int ((zi k) + zi 1)), some (.long (zl s1)), none, some (.long (zl (z26 * 67108864))), none, some (.long (zl (((2 * s1) + (z26 * 67108864)) / (2 * (z26 * 67108864))))), none]) (S' := []) (L2 := [some (.ref m), some (.int (zi (zup cw 8))), some (.int (zi b)), some (.int (zi (k + 1))), some (.long (zl s1)), none, some (.long (zl (z26 * 67108864))), none, some (.long (zl (((2 * s1) + (z26 * 67108864)) / (2 * (z26 * 67108864))))), none]) (S2 := []) rfl (by simp only [zi_add, zi_sub, zi_mul, zi_neg, zi_and1, zi_and7, zi_and15, zi_and31, zi_and255, zl_add, zl_sub, zl_mul, zl_neg]) (by simp only [zi_add, zi_sub, zi_mul, zi_neg, zi_and1, zi_and7, zi_and15, zi_and31, zi_and255, zl_add, zl_sub, zl_mul, zl_neg]) ?_
                      exact gz_wk (ihlp17 h33 (k + 1) (by omega) sh33 (by omega) s36 s37 s38 pr34) (gLw.s (gLw.s (gLw.s (gLw.s (gLw.n (gLw.n (gLw.n (gLw.n (gLw.n (gLw.n gLw.z))))))))))
                    · refine gy_ifF rfl (by decide) (by decide) (by omega) hc29 ?_
                      refine gz_1 rfl (by decide) rfl rfl (pc' := 160) (S' := [.long (zl (-2))]) (h' := h21) rfl ?_
                      refine gy_s 4 (pc' := 166) (L' := [some (.ref m), some (.int (zi (zup cw 8))), some (.int (zi b)), some (.int (zi k)), some (.long (zl s1)), none, some (.long (zl (z26 * 67108864))), none, none, none]) (S' := [.long (((zl (-2)) * (zl s1)) + (zl (z26 * 67108864)))]) (L2 := [some (.ref m), some (.int (zi (zup cw 8))), some (.int (zi b)), some (.int (zi k)), some (.long (zl s1)), none, some (.long (zl (z26 * 67108864))), none, none, none]) (S2 := [.long (zl (((-2) * s1) + (z26 * 67108864)))]) rfl (by simp only [zi_add, zi_sub, zi_mul, zi_neg, zi_and1, zi_and7, zi_and15, zi_and31, zi_and255, zl_add, zl_sub, zl_mul, zl_neg]) (by simp only [zi_add, zi_sub, zi_mul, zi_neg, zi_and1, zi_and7, zi_and15, zi_and31, zi_and255, zl_add, zl_sub, zl_mul, zl_neg]) ?_
                      refine gz_1 rfl (by decide) rfl rfl (pc' := 169) (S' := [.long (zl 2), .long (zl (((-2) * s1) + (z26 * 67108864)))]) (h' := h21) rfl ?_
                      refine gy_s 2 (pc' := 172) (L' := [some (.ref m), some (.int (zi (zup cw 8))), some (.int (zi b)), some (.int (zi k)), some (.long (zl s1)), none, some (.long (zl (z26 * 67108864))), none, none, none]) (S' := [.long ((zl 2) * (zl (z26 * 67108864))), .long (zl (((-2) * s1) + (z26 * 67108864)))]) (L2 := [some (.ref m), some (.int (zi (zup cw 8))), some (.int (zi b)), some (.int (zi k)), some (.long (zl s1)), none, some (.long (zl (z26 * 67108864))), none, none, none]) (S2 := [.long (zl (2 * (z26 * 67108864))), .long (zl (((-2) * s1) + (z26 * 67108864)))]) rfl (by simp only [zi_add, zi_sub, zi_mul, zi_neg, zi_and1, zi_and7, zi_and15, zi_and31, zi_and255, zl_add, zl_sub, zl_mul, zl_neg]) (by simp only [zi_add, zi_sub, zi_mul, zi_neg, zi_and1, zi_and7, zi_and15, zi_and31, zi_and255, zl_add, zl_sub, zl_mul, zl_neg]) ?_
                      have zq := zq_b (N := (-2) * s1) (b := z26 * 67108864) (by omega) (by omega) (by omega)
                      refine gy_ldiv rfl (by decide) (by omega) (by omega) ?_
                      have hd41 := zd_f (x := ((-2) * s1) + (z26 * 67108864)) (y := 2 * (z26 * 67108864)) (by omega) (by omega)
                      refine gy_s 4 (pc' := 196) (L' := [some (.ref m), some (.int (zi (zup cw 8))), some (.int (zi b)), some (.int (zi k)), some (.long (zl s1)), none, some (.long (zl (z26 * 67108864))), none, some (.long (-(zl ((((-2) * s1) + (z26 * 67108864)) / (2 * (z26 * 67108864)))))), none]) (S' := [.ref m]) (L2 := [some (.ref m), some (.int (zi (zup cw 8))), some (.int (zi b)), some (.int (zi k)), some (.long (zl s1)), none, some (.long (zl (z26 * 67108864))), none, some (.long (zl (-((((-2) * s1) + (z26 * 67108864)) / (2 * (z26 * 67108864)))))), none]) (S2 := [.ref m]) rfl (by simp only [zi_add, zi_sub, zi_mul, zi_neg, zi_and1, zi_and7, zi_and15, zi_and31, zi_and255, zl_add, zl_sub, zl_mul, zl_neg]) (by simp only [zi_add, zi_sub, zi_mul, zi_neg, zi_and1, zi_and7, zi_and15, zi_and31, zi_and255, zl_add, zl_sub, zl_mul, zl_neg]) ?_
                      refine gs_gtr rfl (by decide) rfl sh21.1 tm rfl rfl rfl (fun c42 ec42 tc42 => ?_)
                      refine gy_s 6 (pc' := 207) (L' := [some (.ref m), some (.int (zi (zup cw 8))), some (.int (zi b)), some (.int (zi k)), some (.long (zl s1)), none, some (.long (zl (z26 * 67108864))), none, some (.long (zl (-((((-2) * s1) + (z26 * 67108864)) / (2 * (z26 * 67108864)))))), none]) (S' := [.long (zl (-((((-2) * s1) + (z26 * 67108864)) / (2 * (z26 * 67108864))))), .int (((zi 64) * (zi b)) + (zi k)), .ref c42]) (L2 := [some (.ref m), some (.int (zi (zup cw 8))), some (.int (zi b)), some (.int (zi k)), some (.long (zl s1)), none, some (.long (zl (z26 * 67108864))), none, some (.long (zl (-((((-2) * s1) + (z26 * 67108864)) / (2 * (z26 * 67108864)))))), none]) (S2 := [.long (zl (-((((-2) * s1) + (z26 * 67108864)) / (2 * (z26 * 67108864))))), .int (zi ((64 * b) + k)), .ref c42]) rfl (by simp only [zi_add, zi_sub, zi_mul, zi_neg, zi_and1, zi_and7, zi_and15, zi_and31, zi_and255, zl_add, zl_sub, zl_mul, zl_neg]) (by simp only [zi_add, zi_sub, zi_mul, zi_neg, zi_and1, zi_and7, zi_and15, zi_and31, zi_and255, zl_add, zl_sub, zl_mul, zl_neg]) ?_
                      refine gy_l2i rfl (by decide) ?_
                      have hl43 : 1024 ≤ h21.2.2.2.1 c42 ∧ h21.2.2.2.1 c42 ≤ 1024 := gJ.rowl (G := gGG) sh21.1 tc42 rfl
                      refine gs_ast rfl (by decide) sh21 tc42 rfl rfl rfl (by decide) (fun _ => rfl) (by omega) (by omega) (fun _ => (by decide : (33999 : Nat) ∈ ([1064, 33999] : List Nat))) (by omega) (by omega) (fun h44 sh44 eh44 fh44 => ?_)
                      have pr45 := gOt.pt fh44 tc42 (by decide) lp20k3
                      have pr46 := gEl.pt fh44 tc42 (by decide) pr24
                      have s47 := (fh44 m 50 (fun q => absurd (((tm).symm.trans (congrArg ty q.1)).trans tc42) (by decide))).trans lp20k0
                      have s48 := (fh44 m 51 (fun q => absurd (((tm).symm.trans (congrArg ty q.1)).trans tc42) (by decide))).trans lp20k1
                      have s49 := (fh44 m 64 (fun q => absurd (((tm).symm.trans (congrArg ty q.1)).trans tc42) (by decide))).trans lp20k2
                      have s50 := (fh44 m 65 (fun q => absurd (((tm).symm.trans (congrArg ty q.1)).trans tc42) (by decide))).trans ec23
                      have s51 := (fh44 m 63 (fun q => absurd (((tm).symm.trans (congrArg ty q.1)).trans tc42) (by decide))).trans ec42
                      refine gy_s 2 (pc' := 37) (L' := [some (.ref m), some (.int (zi (zup cw 8))), some (.int (zi b)), some (.int ((zi k) + zi 1)), some (.long (zl s1)), none, some (.long (zl (z26 * 67108864))), none, some (.long (zl (-((((-2) * s1) + (z26 * 67108864)) / (2 * (z26 * 67108864)))))), none]) (S' := []) (L2 := [some (.ref m), some (.int (zi (zup cw 8))), some (.int (zi b)), some (.int (zi (k + 1))), some (.long (zl s1)), none, some (.long (zl (z26 * 67108864))), none, some (.long (zl (-((((-2) * s1) + (z26 * 67108864)) / (2 * (z26 * 67108864)))))), none]) (S2 := []) rfl (by simp only [zi_add, zi_sub, zi_mul, zi_neg, zi_and1, zi_and7, zi_and15, zi_and31, zi_and255, zl_add, zl_sub, zl_mul, zl_neg]) (by simp only [zi_add, zi_sub, zi_mul, zi_neg, zi_and1, zi_and7, zi_and15, zi_and31, zi_and255, zl_add, zl_sub, zl_mul, zl_neg]) ?_
                      exact gz_wk (ihlp17 h44 (k + 1) (by omega) sh44 (by omega) s47 s48 s49 pr45) (gLw.s (gLw.s (gLw.s (gLw.s (gLw.n (gLw.n (gLw.n (gLw.n (gLw.n (gLw.n gLw.z))))))))))
                  · refine gy_icF rfl (by decide) (by decide) (by omega) (by omega) hc22 ?_
                    refine gz_s 2 (pc' := 59) (L' := [some (.ref m), some (.int (zi (zup cw 8))), some (.int (zi b)), some (.int (zi k)), some (.long (zl s1)), none, some (.int (zi y)), some (.int (zi 0)), none, none]) (S' := []) rfl ?_
                    have lp52 : ∀ (fu : Nat) (h53 : gH) (s2 : Int) (x : Int), (9 - x).toNat < fu → gSs rT 1027 ty [1064, 33999] h h53 → ((-137438953472) ≤ s2 ∧ s2 ≤ 137438953472) → (0 ≤ x ∧ x ≤ 8) → (-(17179869184 * y + 2147483648 * x) ≤ s2) → (s2 ≤ 17179869184 * y + 2147483648 * x) → h53.2.2.2.2 m 50 = .int (zi cw) → h53.2.2.2.2 m 51 = .int (zi ch) → h53.2.2.2.2 m 64 = .int (zi ((zup cw 8) * (zup ch 8))) → gOt ty 64 h53 → gz gPP gGG gcn (d + 1) gt185 59 [some (.ref m), some (.int (zi (zup cw 8))), some (.int (zi b)), some (.int (zi k)), some (.long (zl s2)), none, some (.int (zi y)), some (.int (zi x)), none, none] [] h53 (fun q _ => gSs rT 1027 ty [1064, 33999] h q.2.2 ∧ gfin gt185 q.1 q.2.1 = some none) := by
                      intro fu
                      induction fu with
                      | zero => intro h53 s2 x hm; exact absurd hm (Nat.not_lt_zero _)
                      | succ fu ihlp52 =>
                        intro h53 s2 x lp52m sh53 lp52f0 lp52f1 lp52f2 lp52f3 lp52k0 lp52k1 lp52k2 lp52k3
                        refine gz_s 2 (pc' := 63) (L' := [some (.ref m), some (.int (zi (zup cw 8))), some (.int (zi b)), some (.int (zi k)), some (.long (zl s2)), none, some (.int (zi y)), some (.int (zi x)), none, none]) (S' := [.int (zi 8), .int (zi x)]) rfl ?_
                        by_cases hc54 : (8 : Int) ≤ x
                        · refine gy_icT (pc' := 131) rfl (by decide) (by decide) (by omega) (by omega) hc54 ?_
                          refine gy_s 2 (pc' := 49) (L' := [some (.ref m), some (.int (zi (zup cw 8))), some (.int (zi b)), some (.int (zi k)), some (.long (zl s2)), none, some (.int ((zi y) + zi 1)), some (.int (zi x)), none, none]) (S' := []) (L2 := [some (.ref m), some (.int (zi (zup cw 8))), some (.int (zi b)), some (.int (zi k)), some (.long (zl s2)), none, some (.int (zi (y + 1))), some (.int (zi x)), none, none]) (S2 := []) rfl (by simp only [zi_add, zi_sub, zi_mul, zi_neg, zi_and1, zi_and7, zi_and15, zi_and31, zi_and255, zl_add, zl_sub, zl_mul, zl_neg]) (by simp only [zi_add, zi_sub, zi_mul, zi_neg, zi_and1, zi_and7, zi_and15, zi_and31, zi_and255, zl_add, zl_sub, zl_mul, zl_neg]) ?_
                          exact gz_wk (ihlp20 h53 s2 (y + 1) (by omega) sh53 (by omega) (by omega) (by omega) (by omega) lp52k0 lp52k1 lp52k2 lp52k3) (gLw.s (gLw.s (gLw.s (gLw.s (gLw.s (gLw.n (gLw.s (gLw.n (gLw.n (gLw.n gLw.z))))))))))
                        · refine gy_icF rfl (by decide) (by decide) (by omega) (by omega) hc54 ?_
                          refine gz_s 2 (pc' := 69) (L' := [some (.ref m), some (.int (zi (zup cw 8))), some (.int (zi b)), some (.int (zi k)), some (.long (zl s2)), none, some (.int (zi y)), some (.int (zi x)), none, none]) (S' := [.ref m, .long (zl s2)]) rfl ?_
                          refine gs_gtr rfl (by decide) rfl sh53.1 tm rfl rfl rfl (fun c55 ec55 tc55 => ?_)
                          refine gz_s 1 (pc' := 73) (L' := [some (.ref m), some (.int (zi (zup cw 8))), some (.int (zi b)), some (.int (zi k)), some (.long (zl s2)), none, some (.int (zi y)), some (.int (zi x)), none, none]) (S' := [.int (zi k), .ref c55, .long (zl s2)]) rfl ?_
                          have hl56 : 64 ≤ h53.2.2.2.1 c55 ∧ h53.2.2.2.1 c55 ≤ 64 := gJ.rowl (G := gGG) sh53.1 tc55 rfl
                          refine gs_ald rfl (by decide) sh53.1 tc55 rfl rfl rfl (by decide) (fun _ => rfl) (by omega) (by omega) (fun z57 ez57 az57 bz57 => ?_)
                          refine gz_s 1 (pc' := 76) (L' := [some (.ref m), some (.int (zi (zup cw 8))), some (.int (zi b)), some (.int (zi k)), some (.long (zl s2)), none, some (.int (zi y)), some (.int (zi x)), none, none]) (S' := [.int (zi 8), .int (zi z57), .long (zl s2)]) rfl ?_
                          refine gy_rem rfl (by decide) (by omega) (by omega) ?_
                          refine gz_s 1 (pc' := 79) (L' := [some (.ref m), some (.int (zi (zup cw 8))), some (.int (zi b)), some (.int (zi k)), some (.long (zl s2)), none, some (.int (zi y)), some (.int (zi x)), none, none]) (S' := [.int (zi x), .int (zi (z57 % 8)), .long (zl s2)]) rfl ?_
                          refine gz_call rfl (by decide) rfl (by decide) (by decide) (gcal_of rfl rfl rfl (Nat.le_of_ble_eq_true rfl) rfl) (mm_cosine _ sh53.1 (z57 % 8) (by omega) x (by omega) ) (fun q58 _ wq58 => ?_)
                          obtain ⟨pq58, oq58, hq58⟩ := q58
                          obtain ⟨xq58, zq58, gq58, aq58, bq58⟩ := wq58
                          refine ⟨_, gq58, ?_⟩
                          show gz gPP gGG gcn _ _ 82 [some (.ref m), some (.int (zi (zup cw 8))), some (.int (zi b)), some (.int (zi k)), some (.long (zl s2)), none, some (.int (zi y)), some (.int (zi x)), none, none] [.int (zi zq58), .long (zl s2)] hq58 _
                          have sq58 := gSs.tr sh53 xq58 (by decide)
                          have s59 := (xq58.2.2.2.2.2 m 50 (by rw [tm]; decide)).trans lp52k0
                          have s60 := (xq58.2.2.2.2.2 m 51 (by rw [tm]; decide)).trans lp52k1
                          have s61 := (xq58.2.2.2.2.2 m 64 (by rw [tm]; decide)).trans lp52k2
                          have s62 := (xq58.2.2.2.2.2 m 15 (by rw [tm]; decide)).trans ec55
                          have pr63 := gOt.fr xq58.2 (by decide) lp52k3
                          refine gz_s 1 (pc' := 83) (L' := [some (.ref m), some (.int (zi (zup cw 8))), some (.int (zi b)), some (.int (zi k)), some (.long (zl s2)), none, some (.int (zi y)), some (.int (zi x)), none, none]) (S' := [.ref m, .int (zi zq58), .long (zl s2)]) rfl ?_
                          refine gs_gtk rfl (by decide) rfl sq58.1 tm rfl rfl s62 ?_
                          refine gz_s 1 (pc' := 87) (L' := [some (.ref m), some (.int (zi (zup cw 8))), some (.int (zi b)), some (.int (zi k)), some (.long (zl s2)), none, some (.int (zi y)), some (.int (zi x)), none, none]) (S' := [.int (zi k), .ref c55, .int (zi zq58), .long (zl s2)]) rfl ?_
                          have hl64 : 64 ≤ hq58.2.2.2.1 c55 ∧ hq58.2.2.2.1 c55 ≤ 64 := gJ.rowl (G := gGG) sq58.1 tc55 rfl
                          refine gs_ald rfl (by decide) sq58.1 tc55 rfl rfl rfl (by decide) (fun _ => rfl) (by omega) (by omega) (fun z65 ez65 az65 bz65 => ?_)
                          refine gz_s 1 (pc' := 90) (L' := [some (.ref m), some (.int (zi (zup cw 8))), some (.int (zi b)), some (.int (zi k)), some (.long (zl s2)), none, some (.int (zi y)), some (.int (zi x)), none, none]) (S' := [.int (zi 8), .int (zi z65), .int (zi zq58), .long (zl s2)]) rfl ?_
                          refine gy_div rfl (by decide) (by omega) (by omega) ?_
                          refine gz_s 1 (pc' := 93) (L' := [some (.ref m), some (.int (zi (zup cw 8))), some (.int (zi b)), some (.int (zi k)), some (.long (zl s2)), none, some (.int (zi y)), some (.int (zi x)), none, none]) (S' := [.int (zi y), .int (zi (z65 / 8)), .int (zi zq58), .long (zl s2)]) rfl ?_
                          refine gz_call rfl (by decide) rfl (by decide) (by decide) (gcal_of rfl rfl rfl (Nat.le_of_ble_eq_true rfl) rfl) (mm_cosine _ sq58.1 (z65 / 8) (by omega) y (by omega) ) (fun q66 _ wq66 => ?_)
                          obtain ⟨pq66, oq66, hq66⟩ := q66
                          obtain ⟨xq66, zq66, gq66, aq66, bq66⟩ := wq66
                          refine ⟨_, gq66, ?_⟩
                          show gz gPP gGG gcn _ _ 96 [some (.ref m), some (.int (zi (zup cw 8))), some (.int (zi b)), some (.int (zi k)), some (.long (zl s2)), none, some (.int (zi y)), some (.int (zi x)), none, none] [.int (zi zq66), .int (zi zq58), .long (zl s2)] hq66 _
                          have sq66 := gSs.tr sq58 xq66 (by decide)
                          have s67 := (xq66.2.2.2.2.2 m 50 (by rw [tm]; decide)).trans s59
                          have s68 := (xq66.2.2.2.2.2 m 51 (by rw [tm]; decide)).trans s60
                          have s69 := (xq66.2.2.2.2.2 m 64 (by rw [tm]; decide)).trans s61
                          have s70 := (xq66.2.2.2.2.2 m 15 (by rw [tm]; decide)).trans s62
                          have pr71 := gOt.fr xq66.2 (by decide) pr63
                          have hx72 := zx_s (a := zq58) (b := zq66) (A := 4096) (B := 4096) (by omega) (by omega) (by omega) (by omega)
                          refine gy_s 1 (pc' := 97) (L' := [some (.ref m), some (.int (zi (zup cw 8))), some (.int (zi b)), some (.int (zi k)), some (.long (zl s2)), none, some (.int (zi y)), some (.int (zi x)), none, none]) (S' := [.int ((zi zq58) * (zi zq66)), .long (zl s2)]) (L2 := [some (.ref m), some (.int (zi (zup cw 8))), some (.int (zi b)), some (.int (zi k)), some (.long (zl s2)), none, some (.int (zi y)), some (.int (zi x)), none, none]) (S2 := [.int (zi (zq58 * zq66)), .long (zl s2)]) rfl (by simp only [zi_add, zi_sub, zi_mul, zi_neg, zi_and1, zi_and7, zi_and15, zi_and31, zi_and255, zl_add, zl_sub, zl_mul, zl_neg]) (by simp only [zi_add, zi_sub, zi_mul, zi_neg, zi_and1, zi_and7, zi_and15, zi_and31, zi_and255, zl_add, zl_sub, zl_mul, zl_neg]) ?_
                          refine gy_i2l rfl (by decide) (by omega) ?_
                          refine gz_s 3 (pc' := 101) (L' := [some (.ref m), some (.int (zi (zup cw 8))), some (.int (zi b)), some (.int (zi k)), some (.long (zl s2)), none, some (.int (zi y)), some (.int (zi x)), none, none]) (S' := [.int (zi (zup cw 8)), .int (zi b), .ref m, .long (zl (zq58 * zq66)), .long (zl s2)]) rfl ?_
                          refine gy_rem rfl (by decide) (by omega) (by omega) ?_
                          have hd73 := zm_f (x := b) (y := zup cw 8) (by omega) (by omega)
                          refine gy_s 6 (pc' := 110) (L' := [some (.ref m), some (.int (zi (zup cw 8))), some (.int (zi b)), some (.int (zi k)), some (.long (zl s2)), none, some (.int (zi y)), some (.int (zi x)), none, none]) (S' := [.int (zi (zup cw 8)), .int (zi b), .int (((zi (b % (zup cw 8))) * (zi 8)) + (zi x)), .ref m, .long (zl (zq58 * zq66)), .long (zl s2)]) (L2 := [some (.ref m), some (.int (zi (zup cw 8))), some (.int (zi b)), some (.int (zi k)), some (.long (zl s2)), none, some (.int (zi y)), some (.int (zi x)), none, none]) (S2 := [.int (zi (zup cw 8)), .int (zi b), .int (zi (((b % (zup cw 8)) * 8) + x)), .ref m, .long (zl (zq58 * zq66)), .long (zl s2)]) rfl (by simp only [zi_add, zi_sub, zi_mul, zi_neg, zi_and1, zi_and7, zi_and15, zi_and31, zi_and255, zl_add, zl_sub, zl_mul, zl_neg]) (by simp only [zi_add, zi_sub, zi_mul, zi_neg, zi_and1, zi_and7, zi_and15, zi_and31, zi_and255, zl_add, zl_sub, zl_mul, zl_neg]) ?_
                          refine gy_div rfl (by decide) (by omega) (by omega) ?_
                          have hd74 := zd_f (x := b) (y := zup cw 8) (by omega) (by omega)
                          refine gy_s 4 (pc' := 117) (L' := [some (.ref m), some (.int (zi (zup cw 8))), some (.int (zi b)), some (.int (zi k)), some (.long (zl s2)), none, some (.int (zi y)), some (.int (zi x)), none, none]) (S' := [.int (((zi (b / (zup cw 8))) * (zi 8)) + (zi y)), .int (zi (((b % (zup cw 8)) * 8) + x)), .ref m, .long (zl (zq58 * zq66)), .long (zl s2)]) (L2 := [some (.ref m), some (.int (zi (zup cw 8))), some (.int (zi b)), some (.int (zi k)), some (.long (zl s2)), none, some (.int (zi y)), some (.int (zi x)), none, none]) (S2 := [.int (zi (((b / (zup cw 8)) * 8) + y)), .int (zi (((b % (zup cw 8)) * 8) + x)), .ref m, .long (zl (zq58 * zq66)), .long (zl s2)]) rfl (by simp only [zi_add, zi_sub, zi_mul, zi_neg, zi_and1, zi_and7, zi_and15, zi_and31, zi_and255, zl_add, zl_sub, zl_mul, zl_neg]) (by simp only [zi_add, zi_sub, zi_mul, zi_neg, zi_and1, zi_and7, zi_and15, zi_and31, zi_and255, zl_add, zl_sub, zl_mul, zl_neg]) ?_
                          refine gz_call rfl (by decide) rfl (by decide) (by decide) (gcal_of rfl rfl rfl (Nat.le_of_ble_eq_true rfl) (gJ.recv (G := gGG) sq66.1 tm rfl rfl)) (mm_pointOf _ sq66.1 m tm (((b % (zup cw 8)) * 8) + x) (by omega) (((b / (zup cw 8)) * 8) + y) (by omega) cw s67 (by omega) ch s68 (by omega)) (fun q75 _ wq75 => ?_)
                          obtain ⟨pq75, oq75, hq75⟩ := q75
                          obtain ⟨xq75, zq75, gq75, aq75, bq75⟩ := wq75
                          refine ⟨_, gq75, ?_⟩
                          show gz gPP gGG gcn _ _ 120 [some (.ref m), some (.int (zi (zup cw 8))), some (.int (zi b)), some (.int (zi k)), some (.long (zl s2)), none, some (.int (zi y)), some (.int (zi x)), none, none] [.int (zi zq75), .long (zl (zq58 * zq66)), .long (zl s2)] hq75 _
                          have sq75 := gSs.tr sq66 xq75 (by decide)
                          have s76 := (xq75.2.2.2.2.2 m 50 (by rw [tm]; decide)).trans s67
                          have s77 := (xq75.2.2.2.2.2 m 51 (by rw [tm]; decide)).trans s68
                          have s78 := (xq75.2.2.2.2.2 m 64 (by rw [tm]; decide)).trans s69
                          have s79 := (xq75.2.2.2.2.2 m 15 (by rw [tm]; decide)).trans s70
                          have pr80 := gOt.fr xq75.2 (by decide) pr71
                          refine gy_i2l rfl (by decide) (by omega) ?_
                          have hx81 := zx_s (a := zq58 * zq66) (b := zq75) (A := 16777216) (B := 128) (by omega) (by omega) (by omega) (by omega)
                          refine gy_s 5 (pc' := 59) (L' := [some (.ref m), some (.int (zi (zup cw 8))), some (.int (zi b)), some (.int (zi k)), some (.long ((zl s2) + ((zl (zq58 * zq66)) * (zl zq75)))), none, some (.int (zi y)), some (.int ((zi x) + zi 1)), none, none]) (S' := []) (L2 := [some (.ref m), some (.int (zi (zup cw 8))), some (.int (zi b)), some (.int (zi k)), some (.long (zl (s2 + ((zq58 * zq66) * zq75)))), none, some (.int (zi y)), some (.int (zi (x + 1))), none, none]) (S2 := []) rfl (by simp only [zi_add, zi_sub, zi_mul, zi_neg, zi_and1, zi_and7, zi_and15, zi_and31, zi_and255, zl_add, zl_sub, zl_mul, zl_neg]) (by simp only [zi_add, zi_sub, zi_mul, zi_neg, zi_and1, zi_and7, zi_and15, zi_and31, zi_and255, zl_add, zl_sub, zl_mul, zl_neg]) ?_
                          exact gz_wk (ihlp52 hq75 (s2 + ((zq58 * zq66) * zq75)) (x + 1) (by omega) sq75 (by omega) (by omega) (by omega) (by omega) s76 s77 s78 pr80) (gLw.s (gLw.s (gLw.s (gLw.s (gLw.s (gLw.n (gLw.s (gLw.s (gLw.n (gLw.n gLw.z))))))))))
                    exact gz_wk (lp52 _ h21 s1 0 (Nat.lt_succ_self _) sh21 (by omega) (by omega) (by omega) (by omega) lp20k0 lp20k1 lp20k2 lp20k3) (gLw.s (gLw.s (gLw.s (gLw.s (gLw.s (gLw.n (gLw.s (gLw.s (gLw.n (gLw.n gLw.z))))))))))
              exact gz_wk (lp20 _ h18 0 0 (Nat.lt_succ_self _) sh18 (by omega) (by omega) (by omega) (by omega) lp17k0 lp17k1 lp17k2 lp17k3) (gLw.s (gLw.s (gLw.s (gLw.s (gLw.s (gLw.n (gLw.s (gLw.n (gLw.n (gLw.n gLw.z))))))))))
        exact gz_wk (lp17 _ h15 0 (Nat.lt_succ_self _) sh15 (by omega) lp14k0 lp14k1 lp14k2 lp14k3) (gLw.s (gLw.s (gLw.s (gLw.s (gLw.n (gLw.n (gLw.n (gLw.n (gLw.n (gLw.n gLw.z))))))))))
  exact gz_wk (lp14 _ h10 0 (Nat.lt_succ_self _) sh10 (by omega) s12 s13 eh10 pr11) (gLw.s (gLw.s (gLw.s (gLw.n (gLw.n (gLw.n (gLw.n (gLw.n (gLw.n (gLw.n gLw.z))))))))))
