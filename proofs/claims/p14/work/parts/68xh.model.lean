/-! ===== the encoder of the reference (by program) ===== -/
set_option maxRecDepth 20000 in
set_option maxHeartbeats 4000000 in
theorem mw_cosine (d : Nat) {ty : Nat → Nat} {h : gH} (hJ : gJ rT 1027 ty h) (u : Int) (ru : 0 ≤ u ∧ u ≤ 7) (x1 : Int) (rx1 : 0 ≤ x1 ∧ x1 ≤ 7) : gz gPP gGG gcn (d + 0) gt172 0 (gent [.int (zi u), .int (zi x1)] 5) [] h (fun q _ => gSs rT 1027 ty [] h q.2.2 ∧ ∃ z : Int, gfin gt172 q.1 q.2.1 = some (some (.int (zi z))) ∧ (-4096) ≤ z ∧ z ≤ 4096 ∧ (z = eCs u x1)) := by
  have hS : gSs rT 1027 ty [] h h := gSs.rf hJ
  refine gz_s 1 (pc' := 1) (L' := [some (.int (zi u)), some (.int (zi x1)), none, none, none]) (S' := [.int (zi u)]) rfl ?_
  by_cases hc1 : ¬ (u : Int) = 0
  · refine gy_ifT (pc' := 8) rfl (by decide) (by decide) (by omega) hc1 ?_
    have hx2 := zx_f (a := (2 * x1) + 1) (b := u) (A := 15) (B := 7) (by omega) (by omega) (by omega) (by omega)
    refine gy_s 8 (pc' := 17) (L' := [some (.int (zi u)), some (.int (zi x1)), none, none, none]) (S' := [.int (zi 32), .int ((((zi 2) * (zi x1)) + (zi 1)) * (zi u))]) (L2 := [some (.int (zi u)), some (.int (zi x1)), none, none, none]) (S2 := [.int (zi 32), .int (zi (((2 * x1) + 1) * u))]) rfl (by simp only [zi_add, zi_sub, zi_mul, zi_neg, zi_and1, zi_and7, zi_and15, zi_and31, zi_and255]) (by simp only [zi_add, zi_sub, zi_mul, zi_neg, zi_and1, zi_and7, zi_and15, zi_and31, zi_and255]) ?_
    refine gy_rem rfl (by decide) (by omega) (by omega) ?_
    refine gz_s 3 (pc' := 22) (L' := [some (.int (zi u)), some (.int (zi x1)), some (.int (zi ((((2 * x1) + 1) * u) % 32))), none, none]) (S' := [.int (zi 16), .int (zi ((((2 * x1) + 1) * u) % 32))]) rfl ?_
    have jn3 : ∀ (jn3v0 : Int), ((0 ≤ jn3v0) ∧ (jn3v0 ≤ 16) ∧ (jn3v0 = if 16 < ((((2 * x1) + 1) * u) % 32) then 32 - ((((2 * x1) + 1) * u) % 32) else (((2 * x1) + 1) * u) % 32)) → gz gPP gGG gcn (d + 0) gt172 33 [some (.int (zi u)), some (.int (zi x1)), some (.int (zi ((((2 * x1) + 1) * u) % 32))), none, none] [.int (zi jn3v0)] h (fun q _ => gSs rT 1027 ty [] h q.2.2 ∧ ∃ z : Int, gfin gt172 q.1 q.2.1 = some (some (.int (zi z))) ∧ (-4096) ≤ z ∧ z ≤ 4096 ∧ (z = eCs u x1)) := by
      intro jn3v0 jn3d
      refine gz_s 3 (pc' := 37) (L' := [some (.int (zi u)), some (.int (zi x1)), some (.int (zi jn3v0)), none, none]) (S' := [.int (zi 8), .int (zi jn3v0)]) rfl ?_
      have jn4 : ∀ (jn4v0 : Int), ((0 ≤ jn4v0) ∧ (jn4v0 ≤ 8) ∧ (jn4v0 = if 8 < jn3v0 then 16 - jn3v0 else jn3v0)) → gz gPP gGG gcn (d + 0) gt172 48 [some (.int (zi u)), some (.int (zi x1)), some (.int (zi jn3v0)), none, none] [.int (zi jn4v0)] h (fun q _ => gSs rT 1027 ty [] h q.2.2 ∧ ∃ z : Int, gfin gt172 q.1 q.2.1 = some (some (.int (zi z))) ∧ (-4096) ≤ z ∧ z ≤ 4096 ∧ (z = eCs u x1)) := by
        intro jn4v0 jn4d
        refine gz_s 2 (pc' := 50) (L' := [some (.int (zi u)), some (.int (zi x1)), some (.int (zi jn3v0)), some (.int (zi jn4v0)), none]) (S' := [.int (zi jn4v0)]) rfl ?_
        have jn5 : ∀ (jn5v0 : Int), ((0 ≤ jn5v0) ∧ (jn5v0 ≤ 4096) ∧ (jn5v0 = if jn4v0 = 0 then 4096 else if jn4v0 = 1 then 4017 else if jn4v0 = 2 then 3784 else if jn4v0 = 3 then 3406 else if jn4v0 = 4 then 2896 else if jn4v0 = 5 then 2276 else if jn4v0 = 6 then 1567 else if jn4v0 = 7 then 799 else 0)) → gz gPP gGG gcn (d + 0) gt172 139 [some (.int (zi u)), some (.int (zi x1)), some (.int (zi jn3v0)), some (.int (zi jn4v0)), none] [.int (zi jn5v0)] h (fun q _ => gSs rT 1027 ty [] h q.2.2 ∧ ∃ z : Int, gfin gt172 q.1 q.2.1 = some (some (.int (zi z))) ∧ (-4096) ≤ z ∧ z ≤ 4096 ∧ (z = eCs u x1)) := by
          intro jn5v0 jn5d
          refine gz_s 3 (pc' := 144) (L' := [some (.int (zi u)), some (.int (zi x1)), some (.int (zi jn3v0)), some (.int (zi jn4v0)), some (.int (zi jn5v0))]) (S' := [.int (zi 8), .int (zi jn3v0)]) rfl ?_
          by_cases hc6 : (jn3v0 : Int) ≤ 8
          · refine gy_icT (pc' := 153) rfl (by decide) (by decide) (by omega) (by omega) hc6 ?_
            refine gz_s 1 (pc' := 155) (L' := [some (.int (zi u)), some (.int (zi x1)), some (.int (zi jn3v0)), some (.int (zi jn4v0)), some (.int (zi jn5v0))]) (S' := [.int (zi jn5v0)]) rfl ?_
            have hcs : jn5v0 = eCs u x1 := eCs_of (k0 := (((2 * x1) + 1) * u) % 32) (k := jn3v0) (w := jn4v0) (c := jn5v0) (by omega) rfl (by omega) (by omega) (by omega) (by omega)
            exact gz_end (I := .ireturn) (len := 1) rfl (Or.inl rfl) ⟨hS, jn5v0, rfl, (by omega), (by omega), (by omega)⟩
          · refine gy_icF rfl (by decide) (by decide) (by omega) (by omega) hc6 ?_
            refine gy_s 3 (pc' := 155) (L' := [some (.int (zi u)), some (.int (zi x1)), some (.int (zi jn3v0)), some (.int (zi jn4v0)), some (.int (zi jn5v0))]) (S' := [.int (-(zi jn5v0))]) (L2 := [some (.int (zi u)), some (.int (zi x1)), some (.int (zi jn3v0)), some (.int (zi jn4v0)), some (.int (zi jn5v0))]) (S2 := [.int (zi (-jn5v0))]) rfl (by simp only [zi_add, zi_sub, zi_mul, zi_neg, zi_and1, zi_and7, zi_and15, zi_and31, zi_and255]) (by simp only [zi_add, zi_sub, zi_mul, zi_neg, zi_and1, zi_and7, zi_and15, zi_and31, zi_and255]) ?_
            have hcs : -jn5v0 = eCs u x1 := eCs_of (k0 := (((2 * x1) + 1) * u) % 32) (k := jn3v0) (w := jn4v0) (c := jn5v0) (by omega) rfl (by omega) (by omega) (by omega) (by omega)
            exact gz_end (I := .ireturn) (len := 1) rfl (Or.inl rfl) ⟨hS, -jn5v0, rfl, (by omega), (by omega), (by omega)⟩
        by_cases hc7 : ¬ (jn4v0 : Int) = 0
        · refine gy_ifT (pc' := 59) rfl (by decide) (by decide) (by omega) hc7 ?_
          refine gz_s 2 (pc' := 61) (L' := [some (.int (zi u)), some (.int (zi x1)), some (.int (zi jn3v0)), some (.int (zi jn4v0)), none]) (S' := [.int (zi 1), .int (zi jn4v0)]) rfl ?_
          by_cases hc8 : ¬ (jn4v0 : Int) = 1
          · refine gy_icT (pc' := 70) rfl (by decide) (by decide) (by omega) (by omega) hc8 ?_
            refine gz_s 2 (pc' := 72) (L' := [some (.int (zi u)), some (.int (zi x1)), some (.int (zi jn3v0)), some (.int (zi jn4v0)), none]) (S' := [.int (zi 2), .int (zi jn4v0)]) rfl ?_
            by_cases hc9 : ¬ (jn4v0 : Int) = 2
            · refine gy_icT (pc' := 81) rfl (by decide) (by decide) (by omega) (by omega) hc9 ?_
              refine gz_s 2 (pc' := 83) (L' := [some (.int (zi u)), some (.int (zi x1)), some (.int (zi jn3v0)), some (.int (zi jn4v0)), none]) (S' := [.int (zi 3), .int (zi jn4v0)]) rfl ?_
              by_cases hc10 : ¬ (jn4v0 : Int) = 3
              · refine gy_icT (pc' := 92) rfl (by decide) (by decide) (by omega) (by omega) hc10 ?_
                refine gz_s 2 (pc' := 94) (L' := [some (.int (zi u)), some (.int (zi x1)), some (.int (zi jn3v0)), some (.int (zi jn4v0)), none]) (S' := [.int (zi 4), .int (zi jn4v0)]) rfl ?_
                by_cases hc11 : ¬ (jn4v0 : Int) = 4
                · refine gy_icT (pc' := 103) rfl (by decide) (by decide) (by omega) (by omega) hc11 ?_
                  refine gz_s 2 (pc' := 105) (L' := [some (.int (zi u)), some (.int (zi x1)), some (.int (zi jn3v0)), some (.int (zi jn4v0)), none]) (S' := [.int (zi 5), .int (zi jn4v0)]) rfl ?_
                  by_cases hc12 : ¬ (jn4v0 : Int) = 5
                  · refine gy_icT (pc' := 114) rfl (by decide) (by decide) (by omega) (by omega) hc12 ?_
                    refine gz_s 2 (pc' := 117) (L' := [some (.int (zi u)), some (.int (zi x1)), some (.int (zi jn3v0)), some (.int (zi jn4v0)), none]) (S' := [.int (zi 6), .int (zi jn4v0)]) rfl ?_
                    by_cases hc13 : ¬ (jn4v0 : Int) = 6
                    · refine gy_icT (pc' := 126) rfl (by decide) (by decide) (by omega) (by omega) hc13 ?_
                      refine gz_s 2 (pc' := 129) (L' := [some (.int (zi u)), some (.int (zi x1)), some (.int (zi jn3v0)), some (.int (zi jn4v0)), none]) (S' := [.int (zi 7), .int (zi jn4v0)]) rfl ?_
                      by_cases hc14 : ¬ (jn4v0 : Int) = 7
                      · refine gy_icT (pc' := 138) rfl (by decide) (by decide) (by omega) (by omega) hc14 ?_
                        refine gz_s 1 (pc' := 139) (L' := [some (.int (zi u)), some (.int (zi x1)), some (.int (zi jn3v0)), some (.int (zi jn4v0)), none]) (S' := [.int (zi 0)]) rfl ?_
                        exact jn5 0 (by omega)
                      · refine gy_icF rfl (by decide) (by decide) (by omega) (by omega) hc14 ?_
                        refine gz_s 2 (pc' := 139) (L' := [some (.int (zi u)), some (.int (zi x1)), some (.int (zi jn3v0)), some (.int (zi jn4v0)), none]) (S' := [.int (zi 799)]) rfl ?_
                        exact jn5 799 (by omega)
                    · refine gy_icF rfl (by decide) (by decide) (by omega) (by omega) hc13 ?_
                      refine gz_s 2 (pc' := 139) (L' := [some (.int (zi u)), some (.int (zi x1)), some (.int (zi jn3v0)), some (.int (zi jn4v0)), none]) (S' := [.int (zi 1567)]) rfl ?_
                      exact jn5 1567 (by omega)
                  · refine gy_icF rfl (by decide) (by decide) (by omega) (by omega) hc12 ?_
                    refine gz_s 2 (pc' := 139) (L' := [some (.int (zi u)), some (.int (zi x1)), some (.int (zi jn3v0)), some (.int (zi jn4v0)), none]) (S' := [.int (zi 2276)]) rfl ?_
                    exact jn5 2276 (by omega)
                · refine gy_icF rfl (by decide) (by decide) (by omega) (by omega) hc11 ?_
                  refine gz_s 2 (pc' := 139) (L' := [some (.int (zi u)), some (.int (zi x1)), some (.int (zi jn3v0)), some (.int (zi jn4v0)), none]) (S' := [.int (zi 2896)]) rfl ?_
                  exact jn5 2896 (by omega)
              · refine gy_icF rfl (by decide) (by decide) (by omega) (by omega) hc10 ?_
                refine gz_s 2 (pc' := 139) (L' := [some (.int (zi u)), some (.int (zi x1)), some (.int (zi jn3v0)), some (.int (zi jn4v0)), none]) (S' := [.int (zi 3406)]) rfl ?_
                exact jn5 3406 (by omega)
            · refine gy_icF rfl (by decide) (by decide) (by omega) (by omega) hc9 ?_
              refine gz_s 2 (pc' := 139) (L' := [some (.int (zi u)), some (.int (zi x1)), some (.int (zi jn3v0)), some (.int (zi jn4v0)), none]) (S' := [.int (zi 3784)]) rfl ?_
              exact jn5 3784 (by omega)
          · refine gy_icF rfl (by decide) (by decide) (by omega) (by omega) hc8 ?_
            refine gz_s 2 (pc' := 139) (L' := [some (.int (zi u)), some (.int (zi x1)), some (.int (zi jn3v0)), some (.int (zi jn4v0)), none]) (S' := [.int (zi 4017)]) rfl ?_
            exact jn5 4017 (by omega)
        · refine gy_ifF rfl (by decide) (by decide) (by omega) hc7 ?_
          refine gz_s 2 (pc' := 139) (L' := [some (.int (zi u)), some (.int (zi x1)), some (.int (zi jn3v0)), some (.int (zi jn4v0)), none]) (S' := [.int (zi 4096)]) rfl ?_
          exact jn5 4096 (by omega)
      by_cases hc15 : (jn3v0 : Int) ≤ 8
      · refine gy_icT (pc' := 47) rfl (by decide) (by decide) (by omega) (by omega) hc15 ?_
        refine gz_s 1 (pc' := 48) (L' := [some (.int (zi u)), some (.int (zi x1)), some (.int (zi jn3v0)), none, none]) (S' := [.int (zi jn3v0)]) rfl ?_
        exact jn4 jn3v0 (by omega)
      · refine gy_icF rfl (by decide) (by decide) (by omega) (by omega) hc15 ?_
        refine gy_s 4 (pc' := 48) (L' := [some (.int (zi u)), some (.int (zi x1)), some (.int (zi jn3v0)), none, none]) (S' := [.int ((zi 16) - (zi jn3v0))]) (L2 := [some (.int (zi u)), some (.int (zi x1)), some (.int (zi jn3v0)), none, none]) (S2 := [.int (zi (16 - jn3v0))]) rfl (by simp only [zi_add, zi_sub, zi_mul, zi_neg, zi_and1, zi_and7, zi_and15, zi_and31, zi_and255]) (by simp only [zi_add, zi_sub, zi_mul, zi_neg, zi_and1, zi_and7, zi_and15, zi_and31, zi_and255]) ?_
        exact jn4 (16 - jn3v0) (by omega)
    by_cases hc16 : ((((2 * x1) + 1) * u) % 32 : Int) ≤ 16
    · refine gy_icT (pc' := 32) rfl (by decide) (by decide) (by omega) (by omega) hc16 ?_
      refine gz_s 1 (pc' := 33) (L' := [some (.int (zi u)), some (.int (zi x1)), some (.int (zi ((((2 * x1) + 1) * u) % 32))), none, none]) (S' := [.int (zi ((((2 * x1) + 1) * u) % 32))]) rfl ?_
      exact jn3 ((((2 * x1) + 1) * u) % 32) (by omega)
    · refine gy_icF rfl (by decide) (by decide) (by omega) (by omega) hc16 ?_
      refine gy_s 4 (pc' := 33) (L' := [some (.int (zi u)), some (.int (zi x1)), some (.int (zi ((((2 * x1) + 1) * u) % 32))), none, none]) (S' := [.int ((zi 32) - (zi ((((2 * x1) + 1) * u) % 32)))]) (L2 := [some (.int (zi u)), some (.int (zi x1)), some (.int (zi ((((2 * x1) + 1) * u) % 32))), none, none]) (S2 := [.int (zi (32 - ((((2 * x1) + 1) * u) % 32)))]) rfl (by simp only [zi_add, zi_sub, zi_mul, zi_neg, zi_and1, zi_and7, zi_and15, zi_and31, zi_and255]) (by simp only [zi_add, zi_sub, zi_mul, zi_neg, zi_and1, zi_and7, zi_and15, zi_and31, zi_and255]) ?_
      exact jn3 (32 - ((((2 * x1) + 1) * u) % 32)) (by omega)
  · refine gy_ifF rfl (by decide) (by decide) (by omega) hc1 ?_
    refine gz_s 1 (pc' := 7) (L' := [some (.int (zi u)), some (.int (zi x1)), none, none, none]) (S' := [.int (zi 2896)]) rfl ?_
    have hcs : (2896 : Int) = eCs u x1 := by rw [show u = 0 by omega]; rfl
    exact gz_end (I := .ireturn) (len := 1) rfl (Or.inl rfl) ⟨hS, 2896, rfl, (by omega), (by omega), (by omega)⟩
set_option maxRecDepth 20000 in
set_option maxHeartbeats 4000000 in
theorem mw_pointOf (d : Nat) {ty : Nat → Nat} {h : gH} (hJ : gJ rT 1027 ty h) (m : Nat) (tm : ty m = 1) (px : Int) (rpx : 0 ≤ px ∧ px ≤ 1000) (py : Int) (rpy : 0 ≤ py ∧ py ≤ 1000) (cw : Int) (ecw : h.2.2.2.2 m 50 = .int (zi cw)) (rcw : 1 ≤ cw ∧ cw ≤ 32) (ch : Int) (ech : h.2.2.2.2 m 51 = .int (zi ch)) (rch : 1 ≤ ch ∧ ch ≤ 32) (C : Nat → Int) (uq : gUq ty) (hyf26 : gRn 1024 ty 26 C h) : gz gPP gGG gcn (d + 0) gt185 0 (gent [.ref m, .int (zi px), .int (zi py)] 5) [] h (fun q _ => gSs rT 1027 ty [] h q.2.2 ∧ ∃ z : Int, gfin gt185 q.1 q.2.1 = some (some (.int (zi z))) ∧ (-128) ≤ z ∧ z ≤ 127 ∧ (z = ePt C cw ch px py)) := by
  have hS : gSs rT 1027 ty [] h h := gSs.rf hJ
  refine gz_s 2 (pc' := 2) (L' := [some (.ref m), some (.int (zi px)), some (.int (zi py)), none, none]) (S' := [.ref m, .int (zi px)]) rfl ?_
  refine gs_gtk rfl (by decide) rfl hS.1 tm rfl rfl ecw ?_
  by_cases hc1 : (cw : Int) ≤ px
  · refine gy_icT (pc' := 12) rfl (by decide) (by decide) (by omega) (by omega) hc1 ?_
    refine gz_s 1 (pc' := 13) (L' := [some (.ref m), some (.int (zi px)), some (.int (zi py)), none, none]) (S' := [.ref m]) rfl ?_
    refine gs_gtk rfl (by decide) rfl hS.1 tm rfl rfl ecw ?_
    refine gy_s 5 (pc' := 21) (L' := [some (.ref m), some (.int (zi px)), some (.int (zi py)), some (.int ((zi cw) - (zi 1))), none]) (S' := [.ref m, .int (zi py)]) (L2 := [some (.ref m), some (.int (zi px)), some (.int (zi py)), some (.int (zi (cw - 1))), none]) (S2 := [.ref m, .int (zi py)]) rfl (by simp only [zi_add, zi_sub, zi_mul, zi_neg, zi_and1, zi_and7, zi_and15, zi_and31, zi_and255]) (by simp only [zi_add, zi_sub, zi_mul, zi_neg, zi_and1, zi_and7, zi_and15, zi_and31, zi_and255]) ?_
    refine gs_gtk rfl (by decide) rfl hS.1 tm rfl rfl ech ?_
    by_cases hc2 : (ch : Int) ≤ py
    · refine gy_icT (pc' := 31) rfl (by decide) (by decide) (by omega) (by omega) hc2 ?_
      refine gz_s 1 (pc' := 32) (L' := [some (.ref m), some (.int (zi px)), some (.int (zi py)), some (.int (zi (cw - 1))), none]) (S' := [.ref m]) rfl ?_
      refine gs_gtk rfl (by decide) rfl hS.1 tm rfl rfl ech ?_
      refine gy_s 4 (pc' := 40) (L' := [some (.ref m), some (.int (zi px)), some (.int (zi py)), some (.int (zi (cw - 1))), some (.int ((zi ch) - (zi 1)))]) (S' := [.ref m]) (L2 := [some (.ref m), some (.int (zi px)), some (.int (zi py)), some (.int (zi (cw - 1))), some (.int (zi (ch - 1)))]) (S2 := [.ref m]) rfl (by simp only [zi_add, zi_sub, zi_mul, zi_neg, zi_and1, zi_and7, zi_and15, zi_and31, zi_and255]) (by simp only [zi_add, zi_sub, zi_mul, zi_neg, zi_and1, zi_and7, zi_and15, zi_and31, zi_and255]) ?_
      refine gs_gtr rfl (by decide) rfl hS.1 tm rfl rfl rfl (fun c3 ec3 tc3 => ?_)
      refine gy_s 5 (pc' := 50) (L' := [some (.ref m), some (.int (zi px)), some (.int (zi py)), some (.int (zi (cw - 1))), some (.int (zi (ch - 1)))]) (S' := [.int (((zi 32) * (zi (ch - 1))) + (zi (cw - 1))), .ref c3]) (L2 := [some (.ref m), some (.int (zi px)), some (.int (zi py)), some (.int (zi (cw - 1))), some (.int (zi (ch - 1)))]) (S2 := [.int (zi ((32 * (ch - 1)) + (cw - 1))), .ref c3]) rfl (by simp only [zi_add, zi_sub, zi_mul, zi_neg, zi_and1, zi_and7, zi_and15, zi_and31, zi_and255]) (by simp only [zi_add, zi_sub, zi_mul, zi_neg, zi_and1, zi_and7, zi_and15, zi_and31, zi_and255]) ?_
      have hl4 : 1024 ≤ h.2.2.2.1 c3 ∧ h.2.2.2.1 c3 ≤ 1024 := gJ.rowl (G := gGG) hS.1 tc3 rfl
      refine gs_ald rfl (by decide) hS.1 tc3 rfl rfl rfl (by decide) (fun _ => rfl) (by omega) (by omega) (fun z5 ez5 az5 bz5 => ?_)
      have hf6 := gRn.at (i := (32 * (ch - 1)) + (cw - 1)) (z := z5) hyf26 tc3 ez5 (by omega) (by omega) (by omega)
      have hpt := ePt_o2 (C := C) (w := cw) (h := ch) (x := px) (y := py) (r := ch - 1) (c := cw - 1) (z := z5) (by omega) (by omega) hf6
      refine gy_s 2 (pc' := 55) (L' := [some (.ref m), some (.int (zi px)), some (.int (zi py)), some (.int (zi (cw - 1))), some (.int (zi (ch - 1)))]) (S' := [.int ((zi z5) - (zi 128))]) (L2 := [some (.ref m), some (.int (zi px)), some (.int (zi py)), some (.int (zi (cw - 1))), some (.int (zi (ch - 1)))]) (S2 := [.int (zi (z5 - 128))]) rfl (by simp only [zi_add, zi_sub, zi_mul, zi_neg, zi_and1, zi_and7, zi_and15, zi_and31, zi_and255]) (by simp only [zi_add, zi_sub, zi_mul, zi_neg, zi_and1, zi_and7, zi_and15, zi_and31, zi_and255]) ?_
      exact gz_end (I := .ireturn) (len := 1) rfl (Or.inl rfl) ⟨hS, z5 - 128, rfl, (by omega), (by omega), (by omega)⟩
    · refine gy_icF rfl (by decide) (by decide) (by omega) (by omega) hc2 ?_
      refine gz_s 4 (pc' := 40) (L' := [some (.ref m), some (.int (zi px)), some (.int (zi py)), some (.int (zi (cw - 1))), some (.int (zi py))]) (S' := [.ref m]) rfl ?_
      refine gs_gtr rfl (by decide) rfl hS.1 tm rfl rfl rfl (fun c7 ec7 tc7 => ?_)
      refine gy_s 5 (pc' := 50) (L' := [some (.ref m), some (.int (zi px)), some (.int (zi py)), some (.int (zi (cw - 1))), some (.int (zi py))]) (S' := [.int (((zi 32) * (zi py)) + (zi (cw - 1))), .ref c7]) (L2 := [some (.ref m), some (.int (zi px)), some (.int (zi py)), some (.int (zi (cw - 1))), some (.int (zi py))]) (S2 := [.int (zi ((32 * py) + (cw - 1))), .ref c7]) rfl (by simp only [zi_add, zi_sub, zi_mul, zi_neg, zi_and1, zi_and7, zi_and15, zi_and31, zi_and255]) (by simp only [zi_add, zi_sub, zi_mul, zi_neg, zi_and1, zi_and7, zi_and15, zi_and31, zi_and255]) ?_
      have hl8 : 1024 ≤ h.2.2.2.1 c7 ∧ h.2.2.2.1 c7 ≤ 1024 := gJ.rowl (G := gGG) hS.1 tc7 rfl
      refine gs_ald rfl (by decide) hS.1 tc7 rfl rfl rfl (by decide) (fun _ => rfl) (by omega) (by omega) (fun z9 ez9 az9 bz9 => ?_)
      have hf10 := gRn.at (i := (32 * py) + (cw - 1)) (z := z9) hyf26 tc7 ez9 (by omega) (by omega) (by omega)
      have hpt := ePt_o2 (C := C) (w := cw) (h := ch) (x := px) (y := py) (r := py) (c := cw - 1) (z := z9) (by omega) (by omega) hf10
      refine gy_s 2 (pc' := 55) (L' := [some (.ref m), some (.int (zi px)), some (.int (zi py)), some (.int (zi (cw - 1))), some (.int (zi py))]) (S' := [.int ((zi z9) - (zi 128))]) (L2 := [some (.ref m), some (.int (zi px)), some (.int (zi py)), some (.int (zi (cw - 1))), some (.int (zi py))]) (S2 := [.int (zi (z9 - 128))]) rfl (by simp only [zi_add, zi_sub, zi_mul, zi_neg, zi_and1, zi_and7, zi_and15, zi_and31, zi_and255]) (by simp only [zi_add, zi_sub, zi_mul, zi_neg, zi_and1, zi_and7, zi_and15, zi_and31, zi_and255]) ?_
      exact gz_end (I := .ireturn) (len := 1) rfl (Or.inl rfl) ⟨hS, z9 - 128, rfl, (by omega), (by omega), (by omega)⟩
  · refine gy_icF rfl (by decide) (by decide) (by omega) (by omega) hc1 ?_
    refine gz_s 5 (pc' := 21) (L' := [some (.ref m), some (.int (zi px)), some (.int (zi py)), some (.int (zi px)), none]) (S' := [.ref m, .int (zi py)]) rfl ?_
    refine gs_gtk rfl (by decide) rfl hS.1 tm rfl rfl ech ?_
    by_cases hc11 : (ch : Int) ≤ py
    · refine gy_icT (pc' := 31) rfl (by decide) (by decide) (by omega) (by omega) hc11 ?_
      refine gz_s 1 (pc' := 32) (L' := [some (.ref m), some (.int (zi px)), some (.int (zi py)), some (.int (zi px)), none]) (S' := [.ref m]) rfl ?_
      refine gs_gtk rfl (by decide) rfl hS.1 tm rfl rfl ech ?_
      refine gy_s 4 (pc' := 40) (L' := [some (.ref m), some (.int (zi px)), some (.int (zi py)), some (.int (zi px)), some (.int ((zi ch) - (zi 1)))]) (S' := [.ref m]) (L2 := [some (.ref m), some (.int (zi px)), some (.int (zi py)), some (.int (zi px)), some (.int (zi (ch - 1)))]) (S2 := [.ref m]) rfl (by simp only [zi_add, zi_sub, zi_mul, zi_neg, zi_and1, zi_and7, zi_and15, zi_and31, zi_and255]) (by simp only [zi_add, zi_sub, zi_mul, zi_neg, zi_and1, zi_and7, zi_and15, zi_and31, zi_and255]) ?_
      refine gs_gtr rfl (by decide) rfl hS.1 tm rfl rfl rfl (fun c12 ec12 tc12 => ?_)
      refine gy_s 5 (pc' := 50) (L' := [some (.ref m), some (.int (zi px)), some (.int (zi py)), some (.int (zi px)), some (.int (zi (ch - 1)))]) (S' := [.int (((zi 32) * (zi (ch - 1))) + (zi px)), .ref c12]) (L2 := [some (.ref m), some (.int (zi px)), some (.int (zi py)), some (.int (zi px)), some (.int (zi (ch - 1)))]) (S2 := [.int (zi ((32 * (ch - 1)) + px)), .ref c12]) rfl (by simp only [zi_add, zi_sub, zi_mul, zi_neg, zi_and1, zi_and7, zi_and15, zi_and31, zi_and255]) (by simp only [zi_add, zi_sub, zi_mul, zi_neg, zi_and1, zi_and7, zi_and15, zi_and31, zi_and255]) ?_
      have hl13 : 1024 ≤ h.2.2.2.1 c12 ∧ h.2.2.2.1 c12 ≤ 1024 := gJ.rowl (G := gGG) hS.1 tc12 rfl
      refine gs_ald rfl (by decide) hS.1 tc12 rfl rfl rfl (by decide) (fun _ => rfl) (by omega) (by omega) (fun z14 ez14 az14 bz14 => ?_)
      have hf15 := gRn.at (i := (32 * (ch - 1)) + px) (z := z14) hyf26 tc12 ez14 (by omega) (by omega) (by omega)
      have hpt := ePt_o2 (C := C) (w := cw) (h := ch) (x := px) (y := py) (r := ch - 1) (c := px) (z := z14) (by omega) (by omega) hf15
      refine gy_s 2 (pc' := 55) (L' := [some (.ref m), some (.int (zi px)), some (.int (zi py)), some (.int (zi px)), some (.int (zi (ch - 1)))]) (S' := [.int ((zi z14) - (zi 128))]) (L2 := [some (.ref m), some (.int (zi px)), some (.int (zi py)), some (.int (zi px)), some (.int (zi (ch - 1)))]) (S2 := [.int (zi (z14 - 128))]) rfl (by simp only [zi_add, zi_sub, zi_mul, zi_neg, zi_and1, zi_and7, zi_and15, zi_and31, zi_and255]) (by simp only [zi_add, zi_sub, zi_mul, zi_neg, zi_and1, zi_and7, zi_and15, zi_and31, zi_and255]) ?_
      exact gz_end (I := .ireturn) (len := 1) rfl (Or.inl rfl) ⟨hS, z14 - 128, rfl, (by omega), (by omega), (by omega)⟩
    · refine gy_icF rfl (by decide) (by decide) (by omega) (by omega) hc11 ?_
      refine gz_s 4 (pc' := 40) (L' := [some (.ref m), some (.int (zi px)), some (.int (zi py)), some (.int (zi px)), some (.int (zi py))]) (S' := [.ref m]) rfl ?_
      refine gs_gtr rfl (by decide) rfl hS.1 tm rfl rfl rfl (fun c16 ec16 tc16 => ?_)
      refine gy_s 5 (pc' := 50) (L' := [some (.ref m), some (.int (zi px)), some (.int (zi py)), some (.int (zi px)), some (.int (zi py))]) (S' := [.int (((zi 32) * (zi py)) + (zi px)), .ref c16]) (L2 := [some (.ref m), some (.int (zi px)), some (.int (zi py)), some (.int (zi px)), some (.int (zi py))]) (S2 := [.int (zi ((32 * py) + px)), .ref c16]) rfl (by simp only [zi_add, zi_sub, zi_mul, zi_neg, zi_and1, zi_and7, zi_and15, zi_and31, zi_and255]) (by simp only [zi_add, zi_sub, zi_mul, zi_neg, zi_and1, zi_and7, zi_and15, zi_and31, zi_and255]) ?_
      have hl17 : 1024 ≤ h.2.2.2.1 c16 ∧ h.2.2.2.1 c16 ≤ 1024 := gJ.rowl (G := gGG) hS.1 tc16 rfl
      refine gs_ald rfl (by decide) hS.1 tc16 rfl rfl rfl (by decide) (fun _ => rfl) (by omega) (by omega) (fun z18 ez18 az18 bz18 => ?_)
      have hf19 := gRn.at (i := (32 * py) + px) (z := z18) hyf26 tc16 ez18 (by omega) (by omega) (by omega)
      have hpt := ePt_o2 (C := C) (w := cw) (h := ch) (x := px) (y := py) (r := py) (c := px) (z := z18) (by omega) (by omega) hf19
      refine gy_s 2 (pc' := 55) (L' := [some (.ref m), some (.int (zi px)), some (.int (zi py)), some (.int (zi px)), some (.int (zi py))]) (S' := [.int ((zi z18) - (zi 128))]) (L2 := [some (.ref m), some (.int (zi px)), some (.int (zi py)), some (.int (zi px)), some (.int (zi py))]) (S2 := [.int (zi (z18 - 128))]) rfl (by simp only [zi_add, zi_sub, zi_mul, zi_neg, zi_and1, zi_and7, zi_and15, zi_and31, zi_and255]) (by simp only [zi_add, zi_sub, zi_mul, zi_neg, zi_and1, zi_and7, zi_and15, zi_and31, zi_and255]) ?_
      exact gz_end (I := .ireturn) (len := 1) rfl (Or.inl rfl) ⟨hS, z18 - 128, rfl, (by omega), (by omega), (by omega)⟩
set_option maxRecDepth 20000 in
set_option maxHeartbeats 4000000 in
theorem mw_transform (d : Nat) {ty : Nat → Nat} {h : gH} (hJ : gJ rT 1027 ty h) (m : Nat) (tm : ty m = 1) (cw : Int) (ecw : h.2.2.2.2 m 50 = .int (zi cw)) (rcw : 1 ≤ cw ∧ cw ≤ 32) (ch : Int) (ech : h.2.2.2.2 m 51 = .int (zi ch)) (rch : 1 ≤ ch ∧ ch ≤ 32) (C tb : Nat → Int) (uq : gUq ty) (hyf26 : gRn 1024 ty 26 C h) (hyf34 : gRn 64 ty 34 tb h) (hyf10 : gRn 64 ty 10 (fun i9 => eZz ((i9 : Nat) : Int)) h) (hytbp : ∀ j9 : Nat, j9 < 64 → 1 ≤ tb j9 ∧ tb j9 ≤ 255) : gz gPP gGG gcn (d + 1) gt184 0 (gent [.ref m] 10) [] h (fun q _ => gSs rT 1027 ty [1064, 33999] h q.2.2 ∧ ∃ mb1 : Int, gfin gt184 q.1 q.2.1 = some none ∧ q.2.2.2.2.2.2 m 64 = .int (zi mb1) ∧ 1 ≤ mb1 ∧ mb1 ≤ 16 ∧ (mb1 = zup cw 8 * zup ch 8) ∧ (gRn (64 * mb1).toNat ty 33 (eCf C tb cw ch (zup cw 8)) q.2.2)) := by
  have hS : gSs rT 1027 ty [1064, 33999] h h := gSs.rf hJ
  refine gz_s 1 (pc' := 1) (L' := [some (.ref m), none, none, none, none, none, none, none, none, none]) (S' := [.ref m]) rfl ?_
  refine gs_gtk rfl (by decide) rfl hS.1 tm rfl rfl ecw ?_
  refine gz_s 1 (pc' := 6) (L' := [some (.ref m), none, none, none, none, none, none, none, none, none]) (S' := [.int (zi 8), .int (zi cw)]) rfl ?_
  refine gz_call rfl (by decide) rfl (by decide) (by decide) (gcal_of rfl rfl rfl (Nat.le_of_ble_eq_true rfl) rfl) (mm_up _ hS.1 cw (by omega) 8 (by omega) ) (fun q1 _ wq1 => ?_)
  obtain ⟨pq1, oq1, hq1⟩ := q1
  obtain ⟨xq1, zq1, gq1, aq1, bq1, uq1_0⟩ := wq1
  refine ⟨_, gq1, ?_⟩
  show gz gPP gGG gcn _ _ 9 [some (.ref m), none, none, none, none, none, none, none, none, none] [.int (zi zq1)] hq1 _
  have sq1 := gSs.tr hS xq1 (by decide)
  have s2 := (xq1.2.2.2.2.2 m 50 (by rw [tm]; decide)).trans ecw
  have s3 := (xq1.2.2.2.2.2 m 51 (by rw [tm]; decide)).trans ech
  have pr4 := gRn.fr xq1.2 (by decide) hyf26
  have pr5 := gRn.fr xq1.2 (by decide) hyf34
  have pr6 := gRn.fr xq1.2 (by decide) hyf10
  have zu1 : zup cw 8 = if cw % 8 = 0 then cw / 8 else cw / 8 + 1 := rfl
  have zu2 : zup ch 8 = if ch % 8 = 0 then ch / 8 else ch / 8 + 1 := rfl
  have hcl : zq1 = zup cw 8 := uq1_0
  refine gz_s 4 (pc' := 13) (L' := [some (.ref m), some (.int (zi zq1)), none, none, none, none, none, none, none, none]) (S' := [.ref m, .int (zi zq1), .ref m]) rfl ?_
  refine gs_gtk rfl (by decide) rfl sq1.1 tm rfl rfl s3 ?_
  refine gz_s 1 (pc' := 18) (L' := [some (.ref m), some (.int (zi zq1)), none, none, none, none, none, none, none, none]) (S' := [.int (zi 8), .int (zi ch), .int (zi zq1), .ref m]) rfl ?_
  refine gz_call rfl (by decide) rfl (by decide) (by decide) (gcal_of rfl rfl rfl (Nat.le_of_ble_eq_true rfl) rfl) (mm_up _ sq1.1 ch (by omega) 8 (by omega) ) (fun q7 _ wq7 => ?_)
  obtain ⟨pq7, oq7, hq7⟩ := q7
  obtain ⟨xq7, zq7, gq7, aq7, bq7, uq7_0⟩ := wq7
  refine ⟨_, gq7, ?_⟩
  show gz gPP gGG gcn _ _ 21 [some (.ref m), some (.int (zi zq1)), none, none, none, none, none, none, none, none] [.int (zi zq7), .int (zi zq1), .ref m] hq7 _
  have sq7 := gSs.tr sq1 xq7 (by decide)
  have s8 := (xq7.2.2.2.2.2 m 50 (by rw [tm]; decide)).trans s2
  have s9 := (xq7.2.2.2.2.2 m 51 (by rw [tm]; decide)).trans s3
  have pr10 := gRn.fr xq7.2 (by decide) pr4
  have pr11 := gRn.fr xq7.2 (by decide) pr5
  have pr12 := gRn.fr xq7.2 (by decide) pr6
  have hcl2 : zq7 = zup ch 8 := uq7_0
  have hbs : zq1 * zq7 = zup cw 8 * zup ch 8 := by rw [hcl, hcl2]
  have hpo : 0 < zup cw 8 * zup ch 8 := Int.mul_pos (by omega) (by omega)
  have hx13 := zx_f (a := zq1) (b := zq7) (A := 4) (B := 4) (by omega) (by omega) (by omega) (by omega)
  refine gy_s 1 (pc' := 22) (L' := [some (.ref m), some (.int (zi zq1)), none, none, none, none, none, none, none, none]) (S' := [.int ((zi zq1) * (zi zq7)), .ref m]) (L2 := [some (.ref m), some (.int (zi zq1)), none, none, none, none, none, none, none, none]) (S2 := [.int (zi (zq1 * zq7)), .ref m]) rfl (by simp only [zi_add, zi_sub, zi_mul, zi_neg, zi_and1, zi_and7, zi_and15, zi_and31, zi_and255]) (by simp only [zi_add, zi_sub, zi_mul, zi_neg, zi_and1, zi_and7, zi_and15, zi_and31, zi_and255]) ?_
  refine gs_put rfl (by decide) rfl sq7 tm rfl rfl rfl rfl (Or.inl rfl) (by decide) (by omega) (by omega) (fun h14 sh14 eh14 fh14 => ?_)
  have pr15 := gRn.pt fh14 tm (by decide) pr10
  have pr16 := gRn.pt fh14 tm (by decide) pr11
  have pr17 := gRn.pt fh14 tm (by decide) pr12
  have s18 := (fh14 m 50 (fun q => absurd q.2 (by decide))).trans s8
  have s19 := (fh14 m 51 (fun q => absurd q.2 (by decide))).trans s9
  refine gz_s 2 (pc' := 27) (L' := [some (.ref m), some (.int (zi zq1)), some (.int (zi 0)), none, none, none, none, none, none, none]) (S' := []) rfl ?_
  have lp20 : ∀ (fu : Nat) (h21 : gH) (b : Int), (17 - b).toNat < fu → gSs rT 1027 ty [1064, 33999] h h21 → (0 ≤ b ∧ b ≤ 16) → (b ≤ zq1 * zq7) → h21.2.2.2.2 m 50 = .int (zi cw) → h21.2.2.2.2 m 51 = .int (zi ch) → h21.2.2.2.2 m 64 = .int (zi (zq1 * zq7)) → gRn 1024 ty 26 C h21 → gRn 64 ty 34 tb h21 → gRn 64 ty 10 (fun i9 => eZz ((i9 : Nat) : Int)) h21 → (∀ j9 : Nat, j9 < 64 → 1 ≤ tb j9 ∧ tb j9 ≤ 255) → gRn (64 * b).toNat ty 33 (eCf C tb cw ch (zup cw 8)) h21 → gz gPP gGG gcn (d + 1) gt184 27 [some (.ref m), some (.int (zi zq1)), some (.int (zi b)), none, none, none, none, none, none, none] [] h21 (fun q _ => gSs rT 1027 ty [1064, 33999] h q.2.2 ∧ ∃ mb1 : Int, gfin gt184 q.1 q.2.1 = some none ∧ q.2.2.2.2.2.2 m 64 = .int (zi mb1) ∧ 1 ≤ mb1 ∧ mb1 ≤ 16 ∧ (mb1 = zup cw 8 * zup ch 8) ∧ (gRn (64 * mb1).toNat ty 33 (eCf C tb cw ch (zup cw 8)) q.2.2)) := by
    intro fu
    induction fu with
    | zero => intro h21 b hm; exact absurd hm (Nat.not_lt_zero _)
    | succ fu ihlp20 =>
      intro h21 b lp20m sh21 lp20f0 lp20f1 lp20k0 lp20k1 lp20k2 lp20k3 lp20k4 lp20k5 lp20k6 lp20k7
      refine gz_s 2 (pc' := 29) (L' := [some (.ref m), some (.int (zi zq1)), some (.int (zi b)), none, none, none, none, none, none, none]) (S' := [.ref m, .int (zi b)]) rfl ?_
      refine gs_gtk rfl (by decide) rfl sh21.1 tm rfl rfl lp20k2 ?_
      by_cases hc22 : (zq1 * zq7 : Int) ≤ b
      · refine gy_icT (pc' := 221) rfl (by decide) (by decide) (by omega) (by omega) hc22 ?_
        have hrw23 : gRn (64 * (zq1 * zq7)).toNat ty 33 (eCf C tb cw ch (zup cw 8)) h21 := by have e9 := lp20k7; rw [(by omega : (64 * b).toNat = (64 * (zq1 * zq7)).toNat)] at e9; exact e9
        exact gz_end (I := .return_) (len := 1) rfl (Or.inl rfl) ⟨sh21, zq1 * zq7, rfl, lp20k2, (by omega), (by omega), (by omega), hrw23⟩
      · refine gy_icF rfl (by decide) (by decide) (by omega) (by omega) hc22 ?_
        refine gz_s 2 (pc' := 37) (L' := [some (.ref m), some (.int (zi zq1)), some (.int (zi b)), some (.int (zi 0)), none, none, none, none, none, none]) (S' := []) rfl ?_
        have lp24 : ∀ (fu : Nat) (h25 : gH) (k : Int), (65 - k).toNat < fu → gSs rT 1027 ty [1064, 33999] h h25 → (0 ≤ k ∧ k ≤ 64) → h25.2.2.2.2 m 50 = .int (zi cw) → h25.2.2.2.2 m 51 = .int (zi ch) → h25.2.2.2.2 m 64 = .int (zi (zq1 * zq7)) → gRn 1024 ty 26 C h25 → gRn 64 ty 34 tb h25 → gRn 64 ty 10 (fun i9 => eZz ((i9 : Nat) : Int)) h25 → (∀ j9 : Nat, j9 < 64 → 1 ≤ tb j9 ∧ tb j9 ≤ 255) → gRn (64 * b + k).toNat ty 33 (eCf C tb cw ch (zup cw 8)) h25 → gz gPP gGG gcn (d + 1) gt184 37 [some (.ref m), some (.int (zi zq1)), some (.int (zi b)), some (.int (zi k)), none, none, none, none, none, none] [] h25 (fun q _ => gSs rT 1027 ty [1064, 33999] h q.2.2 ∧ ∃ mb1 : Int, gfin gt184 q.1 q.2.1 = some none ∧ q.2.2.2.2.2.2 m 64 = .int (zi mb1) ∧ 1 ≤ mb1 ∧ mb1 ≤ 16 ∧ (mb1 = zup cw 8 * zup ch 8) ∧ (gRn (64 * mb1).toNat ty 33 (eCf C tb cw ch (zup cw 8)) q.2.2)) := by
          intro fu
          induction fu with
          | zero => intro h25 k hm; exact absurd hm (Nat.not_lt_zero _)
          | succ fu ihlp24 =>
            intro h25 k lp24m sh25 lp24f0 lp24k0 lp24k1 lp24k2 lp24k3 lp24k4 lp24k5 lp24k6 lp24k7
            refine gz_s 2 (pc' := 40) (L' := [some (.ref m), some (.int (zi zq1)), some (.int (zi b)), some (.int (zi k)), none, none, none, none, none, none]) (S' := [.int (zi 64), .int (zi k)]) rfl ?_
            by_cases hc26 : (64 : Int) ≤ k
            · refine gy_icT (pc' := 215) rfl (by decide) (by decide) (by omega) (by omega) hc26 ?_
              have hrw27 : gRn (64 * (b + 1)).toNat ty 33 (eCf C tb cw ch (zup cw 8)) h25 := by have e9 := lp24k7; rw [(by omega : 64 * b + k = 64 * (b + 1))] at e9; exact e9
              refine gy_s 2 (pc' := 27) (L' := [some (.ref m), some (.int (zi zq1)), some (.int ((zi b) + zi 1)), some (.int (zi k)), none, none, none, none, none, none]) (S' := []) (L2 := [some (.ref m), some (.int (zi zq1)), some (.int (zi (b + 1))), some (.int (zi k)), none, none, none, none, none, none]) (S2 := []) rfl (by simp only [zi_add, zi_sub, zi_mul, zi_neg, zi_and1, zi_and7, zi_and15, zi_and31, zi_and255]) (by simp only [zi_add, zi_sub, zi_mul, zi_neg, zi_and1, zi_and7, zi_and15, zi_and31, zi_and255]) ?_
              exact gz_wk (ihlp20 h25 (b + 1) (by omega) sh25 (by omega) (by omega) lp24k0 lp24k1 lp24k2 lp24k3 lp24k4 lp24k5 lp24k6 hrw27) (gLw.s (gLw.s (gLw.s (gLw.n (gLw.n (gLw.n (gLw.n (gLw.n (gLw.n (gLw.n gLw.z))))))))))
            · refine gy_icF rfl (by decide) (by decide) (by omega) (by omega) hc26 ?_
              refine gz_s 4 (pc' := 49) (L' := [some (.ref m), some (.int (zi zq1)), some (.int (zi b)), some (.int (zi k)), some (.long (zl 0)), none, some (.int (zi 0)), none, none, none]) (S' := []) rfl ?_
              have lp28 : ∀ (fu : Nat) (h29 : gH) (s1 : Int) (y : Int), (9 - y).toNat < fu → gSs rT 1027 ty [1064, 33999] h h29 → ((-137438953472) ≤ s1 ∧ s1 ≤ 137438953472) → (0 ≤ y ∧ y ≤ 8) → (-(17179869184 * y) ≤ s1) → (s1 ≤ 17179869184 * y) → (s1 = eS8 (eH8 C cw ch (b % zup cw 8 * 8) (b / zup cw 8 * 8) (eZz k % 8) (eZz k / 8)) (y).toNat) → h29.2.2.2.2 m 50 = .int (zi cw) → h29.2.2.2.2 m 51 = .int (zi ch) → h29.2.2.2.2 m 64 = .int (zi (zq1 * zq7)) → gRn 1024 ty 26 C h29 → gRn 64 ty 34 tb h29 → gRn 64 ty 10 (fun i9 => eZz ((i9 : Nat) : Int)) h29 → (∀ j9 : Nat, j9 < 64 → 1 ≤ tb j9 ∧ tb j9 ≤ 255) → gRn (64 * b + k).toNat ty 33 (eCf C tb cw ch (zup cw 8)) h29 → gz gPP gGG gcn (d + 1) gt184 49 [some (.ref m), some (.int (zi zq1)), some (.int (zi b)), some (.int (zi k)), some (.long (zl s1)), none, some (.int (zi y)), none, none, none] [] h29 (fun q _ => gSs rT 1027 ty [1064, 33999] h q.2.2 ∧ ∃ mb1 : Int, gfin gt184 q.1 q.2.1 = some none ∧ q.2.2.2.2.2.2 m 64 = .int (zi mb1) ∧ 1 ≤ mb1 ∧ mb1 ≤ 16 ∧ (mb1 = zup cw 8 * zup ch 8) ∧ (gRn (64 * mb1).toNat ty 33 (eCf C tb cw ch (zup cw 8)) q.2.2)) := by
                intro fu
                induction fu with
                | zero => intro h29 s1 y hm; exact absurd hm (Nat.not_lt_zero _)
                | succ fu ihlp28 =>
                  intro h29 s1 y lp28m sh29 lp28f0 lp28f1 lp28f2 lp28f3 lp28f4 lp28k0 lp28k1 lp28k2 lp28k3 lp28k4 lp28k5 lp28k6 lp28k7
                  refine gz_s 2 (pc' := 53) (L' := [some (.ref m), some (.int (zi zq1)), some (.int (zi b)), some (.int (zi k)), some (.long (zl s1)), none, some (.int (zi y)), none, none, none]) (S' := [.int (zi 8), .int (zi y)]) rfl ?_
                  by_cases hc30 : (8 : Int) ≤ y
                  · refine gy_icT (pc' := 137) rfl (by decide) (by decide) (by omega) (by omega) hc30 ?_
                    have hsm := eH8_e (C := C) (w := cw) (h := ch) (l := (b % zup cw 8 * 8)) (t := (b / zup cw 8 * 8)) (u := (eZz k % 8)) (v := (eZz k / 8)) (y := y) (by omega)
                    refine gz_s 1 (pc' := 138) (L' := [some (.ref m), some (.int (zi zq1)), some (.int (zi b)), some (.int (zi k)), some (.long (zl s1)), none, some (.int (zi y)), none, none, none]) (S' := [.ref m]) rfl ?_
                    refine gs_gtr rfl (by decide) rfl sh29.1 tm rfl rfl rfl (fun c31 ec31 tc31 => ?_)
                    refine gz_s 1 (pc' := 142) (L' := [some (.ref m), some (.int (zi zq1)), some (.int (zi b)), some (.int (zi k)), some (.long (zl s1)), none, some (.int (zi y)), none, none, none]) (S' := [.int (zi k), .ref c31]) rfl ?_
                    have hl32 : 64 ≤ h29.2.2.2.1 c31 ∧ h29.2.2.2.1 c31 ≤ 64 := gJ.rowl (G := gGG) sh29.1 tc31 rfl
                    refine gs_ald rfl (by decide) sh29.1 tc31 rfl rfl rfl (by decide) (fun _ => rfl) (by omega) (by omega) (fun z33 ez33 az33 bz33 => ?_)
                    have hf34 := gRn.at (i := k) (z := z33) lp28k4 tc31 ez33 (by omega) (by omega) (by omega)
                    have htp := lp28k6 (k).toNat (by omega)
                    rw [hf34] at htp
                    refine gy_i2l rfl (by decide) (by omega) ?_
                    refine gz_1 rfl (by decide) rfl rfl (pc' := 147) (S' := [.long (zl 67108864), .long (zl z33)]) (h' := h29) rfl ?_
                    refine gy_s 4 (pc' := 153) (L' := [some (.ref m), some (.int (zi zq1)), some (.int (zi b)), some (.int (zi k)), some (.long (zl s1)), none, some (.long ((zl z33) * (zl 67108864))), none, none, none]) (S' := [.long (zl 0), .long (zl s1)]) (L2 := [some (.ref m), some (.int (zi zq1)), some (.int (zi b)), some (.int (zi k)), some (.long (zl s1)), none, some (.long (zl (z33 * 67108864))), none, none, none]) (S2 := [.long (zl 0), .long (zl s1)]) rfl (by simp only [zi_add, zi_sub, zi_mul, zi_neg, zi_and1, zi_and7, zi_and15, zi_and31, zi_and255, zl_add, zl_sub, zl_mul, zl_neg]) (by simp only [zi_add, zi_sub, zi_mul, zi_neg, zi_and1, zi_and7, zi_and15, zi_and31, zi_and255, zl_add, zl_sub, zl_mul, zl_neg]) ?_
                    refine gy_lcmp rfl (by decide) (by omega) (by omega) (fun z35 az35 bz35 cz35 => ?_)
                    by_cases hc36 : (0 : Int) ≤ z35
                    · refine gy_ifT (pc' := 177) rfl (by decide) (by decide) (by omega) hc36 ?_
                      refine gz_1 rfl (by decide) rfl rfl (pc' := 180) (S' := [.long (zl 2)]) (h' := h29) rfl ?_
                      refine gy_s 4 (pc' := 186) (L' := [some (.ref m), some (.int (zi zq1)), some (.int (zi b)), some (.int (zi k)), some (.long (zl s1)), none, some (.long (zl (z33 * 67108864))), none, none, none]) (S' := [.long (((zl 2) * (zl s1)) + (zl (z33 * 67108864)))]) (L2 := [some (.ref m), some (.int (zi zq1)), some (.int (zi b)), some (.int (zi k)), some (.long (zl s1)), none, some (.long (zl (z33 * 67108864))), none, none, none]) (S2 := [.long (zl ((2 * s1) + (z33 * 67108864)))]) rfl (by simp only [zi_add, zi_sub, zi_mul, zi_neg, zi_and1, zi_and7, zi_and15, zi_and31, zi_and255, zl_add, zl_sub, zl_mul, zl_neg]) (by simp only [zi_add, zi_sub, zi_mul, zi_neg, zi_and1, zi_and7, zi_and15, zi_and31, zi_and255, zl_add, zl_sub, zl_mul, zl_neg]) ?_
                      refine gz_1 rfl (by decide) rfl rfl (pc' := 189) (S' := [.long (zl 2), .long (zl ((2 * s1) + (z33 * 67108864)))]) (h' := h29) rfl ?_
                      refine gy_s 2 (pc' := 192) (L' := [some (.ref m), some (.int (zi zq1)), some (.int (zi b)), some (.int (zi k)), some (.long (zl s1)), none, some (.long (zl (z33 * 67108864))), none, none, none]) (S' := [.long ((zl 2) * (zl (z33 * 67108864))), .long (zl ((2 * s1) + (z33 * 67108864)))]) (L2 := [some (.ref m), some (.int (zi zq1)), some (.int (zi b)), some (.int (zi k)), some (.long (zl s1)), none, some (.long (zl (z33 * 67108864))), none, none, none]) (S2 := [.long (zl (2 * (z33 * 67108864))), .long (zl ((2 * s1) + (z33 * 67108864)))]) rfl (by simp only [zi_add, zi_sub, zi_mul, zi_neg, zi_and1, zi_and7, zi_and15, zi_and31, zi_and255, zl_add, zl_sub, zl_mul, zl_neg]) (by simp only [zi_add, zi_sub, zi_mul, zi_neg, zi_and1, zi_and7, zi_and15, zi_and31, zi_and255, zl_add, zl_sub, zl_mul, zl_neg]) ?_
                      have zq := zq_b (N := 2 * s1) (b := z33 * 67108864) (by omega) (by omega) (by omega)
                      refine gy_ldiv rfl (by decide) (by omega) (by omega) ?_
                      have hd37 := zd_f (x := (2 * s1) + (z33 * 67108864)) (y := 2 * (z33 * 67108864)) (by omega) (by omega)
                      have hq9 : ((2 * s1) + (z33 * 67108864)) / (2 * (z33 * 67108864)) = eQt s1 z33 := eQt_pm (by omega) (by omega)
                      refine gz_s 2 (pc' := 196) (L' := [some (.ref m), some (.int (zi zq1)), some (.int (zi b)), some (.int (zi k)), some (.long (zl s1)), none, some (.long (zl (z33 * 67108864))), none, some (.long (zl (((2 * s1) + (z33 * 67108864)) / (2 * (z33 * 67108864))))), none]) (S' := [.ref m]) rfl ?_
                      refine gs_gtr rfl (by decide) rfl sh29.1 tm rfl rfl rfl (fun c38 ec38 tc38 => ?_)
                      refine gy_s 6 (pc' := 207) (L' := [some (.ref m), some (.int (zi zq1)), some (.int (zi b)), some (.int (zi k)), some (.long (zl s1)), none, some (.long (zl (z33 * 67108864))), none, some (.long (zl (((2 * s1) + (z33 * 67108864)) / (2 * (z33 * 67108864))))), none]) (S' := [.long (zl (((2 * s1) + (z33 * 67108864)) / (2 * (z33 * 67108864)))), .int (((zi 64) * (zi b)) + (zi k)), .ref c38]) (L2 := [some (.ref m), some (.int (zi zq1)), some (.int (zi b)), some (.int (zi k)), some (.long (zl s1)), none, some (.long (zl (z33 * 67108864))), none, some (.long (zl (((2 * s1) + (z33 * 67108864)) / (2 * (z33 * 67108864))))), none]) (S2 := [.long (zl (((2 * s1) + (z33 * 67108864)) / (2 * (z33 * 67108864)))), .int (zi ((64 * b) + k)), .ref c38]) rfl (by simp only [zi_add, zi_sub, zi_mul, zi_neg, zi_and1, zi_and7, zi_and15, zi_and31, zi_and255, zl_add, zl_sub, zl_mul, zl_neg]) (by simp only [zi_add, zi_sub, zi_mul, zi_neg, zi_and1, zi_and7, zi_and15, zi_and31, zi_and255, zl_add, zl_sub, zl_mul, zl_neg]) ?_
                      refine gy_l2i rfl (by decide) ?_
                      have hl39 : 1024 ≤ h29.2.2.2.1 c38 ∧ h29.2.2.2.1 c38 ≤ 1024 := gJ.rowl (G := gGG) sh29.1 tc38 rfl
                      refine gs_ast rfl (by decide) sh29 tc38 rfl rfl rfl (by decide) (fun _ => rfl) (by omega) (by omega) (fun _ => (by decide : (33999 : Nat) ∈ ([1064, 33999] : List Nat))) (by omega) (by omega) (fun h40 sh40 eh40 fh40 => ?_)
                      have pr41 := gRn.pt fh40 tc38 (by decide) lp28k3
                      have pr42 := gRn.pt fh40 tc38 (by decide) lp28k4
                      have pr43 := gRn.pt fh40 tc38 (by decide) lp28k5
                      have s44 := (fh40 m 50 (fun q => absurd (((tm).symm.trans (congrArg ty q.1)).trans tc38) (by decide))).trans lp28k0
                      have s45 := (fh40 m 51 (fun q => absurd (((tm).symm.trans (congrArg ty q.1)).trans tc38) (by decide))).trans lp28k1
                      have s46 := (fh40 m 64 (fun q => absurd (((tm).symm.trans (congrArg ty q.1)).trans tc38) (by decide))).trans lp28k2
                      have s47 := (fh40 m 65 (fun q => absurd (((tm).symm.trans (congrArg ty q.1)).trans tc38) (by decide))).trans ec31
                      have s48 := (fh40 m 63 (fun q => absurd (((tm).symm.trans (congrArg ty q.1)).trans tc38) (by decide))).trans ec38
                      have pr49 := gEl.set (i := (64 * b) + k) (z := ((2 * s1) + (z33 * 67108864)) / (2 * (z33 * 67108864))) uq tc38 (by decide) eh40 (by omega) (by omega)
                      have hcf50 : ((2 * s1) + (z33 * 67108864)) / (2 * (z33 * 67108864)) = eCf C tb cw ch (zup cw 8) (64 * b + k).toNat := by
                        rw [hq9]
                        unfold eCf
                        rw [(by omega : (((64 * b + k).toNat / 64 : Nat) : Int) = b), (by omega : (((64 * b + k).toNat % 64 : Nat) : Int) = k), (by omega : (64 * b + k).toNat % 64 = (k).toNat), hf34, show s1 = eSm C cw ch (b % zup cw 8 * 8) (b / zup cw 8 * 8) (eZz k % 8) (eZz k / 8) by omega]
                      have hcf50x : 64 * b + (k + 1) = 64 * b + k + 1 := by omega
                      have hrw51 : gRn (64 * b + (k + 1)).toNat ty 33 (eCf C tb cw ch (zup cw 8)) h40 := by rw [hcf50x]; exact gRn.ext (z := ((2 * s1) + (z33 * 67108864)) / (2 * (z33 * 67108864))) uq tc38 (by decide) fh40 eh40 (by omega) (by omega) (by omega) hcf50 lp28k7
                      refine gy_s 2 (pc' := 37) (L' := [some (.ref m), some (.int (zi zq1)), some (.int (zi b)), some (.int ((zi k) + zi 1)), some (.long (zl s1)), none, some (.long (zl (z33 * 67108864))), none, some (.long (zl (((2 * s1) + (z33 * 67108864)) / (2 * (z33 * 67108864))))), none]) (S' := []) (L2 := [some (.ref m), some (.int (zi zq1)), some (.int (zi b)), some (.int (zi (k + 1))), some (.long (zl s1)), none, some (.long (zl (z33 * 67108864))), none, some (.long (zl (((2 * s1) + (z33 * 67108864)) / (2 * (z33 * 67108864))))), none]) (S2 := []) rfl (by simp only [zi_add, zi_sub, zi_mul, zi_neg, zi_and1, zi_and7, zi_and15, zi_and31, zi_and255, zl_add, zl_sub, zl_mul, zl_neg]) (by simp only [zi_add, zi_sub, zi_mul, zi_neg, zi_and1, zi_and7, zi_and15, zi_and31, zi_and255, zl_add, zl_sub, zl_mul, zl_neg]) ?_
                      exact gz_wk (ihlp24 h40 (k + 1) (by omega) sh40 (by omega) s44 s45 s46 pr41 pr42 pr43 lp28k6 hrw51) (gLw.s (gLw.s (gLw.s (gLw.s (gLw.n (gLw.n (gLw.n (gLw.n (gLw.n (gLw.n gLw.z))))))))))
                    · refine gy_ifF rfl (by decide) (by decide) (by omega) hc36 ?_
                      refine gz_1 rfl (by decide) rfl rfl (pc' := 160) (S' := [.long (zl (-2))]) (h' := h29) rfl ?_
                      refine gy_s 4 (pc' := 166) (L' := [some (.ref m), some (.int (zi zq1)), some (.int (zi b)), some (.int (zi k)), some (.long (zl s1)), none, some (.long (zl (z33 * 67108864))), none, none, none]) (S' := [.long (((zl (-2)) * (zl s1)) + (zl (z33 * 67108864)))]) (L2 := [some (.ref m), some (.int (zi zq1)), some (.int (zi b)), some (.int (zi k)), some (.long (zl s1)), none, some (.long (zl (z33 * 67108864))), none, none, none]) (S2 := [.long (zl (((-2) * s1) + (z33 * 67108864)))]) rfl (by simp only [zi_add, zi_sub, zi_mul, zi_neg, zi_and1, zi_and7, zi_and15, zi_and31, zi_and255, zl_add, zl_sub, zl_mul, zl_neg]) (by simp only [zi_add, zi_sub, zi_mul, zi_neg, zi_and1, zi_and7, zi_and15, zi_and31, zi_and255, zl_add, zl_sub, zl_mul, zl_neg]) ?_
                      refine gz_1 rfl (by decide) rfl rfl (pc' := 169) (S' := [.long (zl 2), .long (zl (((-2) * s1) + (z33 * 67108864)))]) (h' := h29) rfl ?_
                      refine gy_s 2 (pc' := 172) (L' := [some (.ref m), some (.int (zi zq1)), some (.int (zi b)), some (.int (zi k)), some (.long (zl s1)), none, some (.long (zl (z33 * 67108864))), none, none, none]) (S' := [.long ((zl 2) * (zl (z33 * 67108864))), .long (zl (((-2) * s1) + (z33 * 67108864)))]) (L2 := [some (.ref m), some (.int (zi zq1)), some (.int (zi b)), some (.int (zi k)), some (.long (zl s1)), none, some (.long (zl (z33 * 67108864))), none, none, none]) (S2 := [.long (zl (2 * (z33 * 67108864))), .long (zl (((-2) * s1) + (z33 * 67108864)))]) rfl (by simp only [zi_add, zi_sub, zi_mul, zi_neg, zi_and1, zi_and7, zi_and15, zi_and31, zi_and255, zl_add, zl_sub, zl_mul, zl_neg]) (by simp only [zi_add, zi_sub, zi_mul, zi_neg, zi_and1, zi_and7, zi_and15, zi_and31, zi_and255, zl_add, zl_sub, zl_mul, zl_neg]) ?_
                      have zq := zq_b (N := (-2) * s1) (b := z33 * 67108864) (by omega) (by omega) (by omega)
                      refine gy_ldiv rfl (by decide) (by omega) (by omega) ?_
                      have hd52 := zd_f (x := ((-2) * s1) + (z33 * 67108864)) (y := 2 * (z33 * 67108864)) (by omega) (by omega)
                      refine gy_s 2 (pc' := 193) (L' := [some (.ref m), some (.int (zi zq1)), some (.int (zi b)), some (.int (zi k)), some (.long (zl s1)), none, some (.long (zl (z33 * 67108864))), none, none, none]) (S' := [.long (-(zl ((((-2) * s1) + (z33 * 67108864)) / (2 * (z33 * 67108864)))))]) (L2 := [some (.ref m), some (.int (zi zq1)), some (.int (zi b)), some (.int (zi k)), some (.long (zl s1)), none, some (.long (zl (z33 * 67108864))), none, none, none]) (S2 := [.long (zl (-((((-2) * s1) + (z33 * 67108864)) / (2 * (z33 * 67108864)))))]) rfl (by simp only [zi_add, zi_sub, zi_mul, zi_neg, zi_and1, zi_and7, zi_and15, zi_and31, zi_and255, zl_add, zl_sub, zl_mul, zl_neg]) (by simp only [zi_add, zi_sub, zi_mul, zi_neg, zi_and1, zi_and7, zi_and15, zi_and31, zi_and255, zl_add, zl_sub, zl_mul, zl_neg]) ?_
                      have hq9 : -((((-2) * s1) + (z33 * 67108864)) / (2 * (z33 * 67108864))) = eQt s1 z33 := eQt_nm (by omega) (by omega)
                      refine gz_s 2 (pc' := 196) (L' := [some (.ref m), some (.int (zi zq1)), some (.int (zi b)), some (.int (zi k)), some (.long (zl s1)), none, some (.long (zl (z33 * 67108864))), none, some (.long (zl (-((((-2) * s1) + (z33 * 67108864)) / (2 * (z33 * 67108864)))))), none]) (S' := [.ref m]) rfl ?_
                      refine gs_gtr rfl (by decide) rfl sh29.1 tm rfl rfl rfl (fun c53 ec53 tc53 => ?_)
                      refine gy_s 6 (pc' := 207) (L' := [some (.ref m), some (.int (zi zq1)), some (.int (zi b)), some (.int (zi k)), some (.long (zl s1)), none, some (.long (zl (z33 * 67108864))), none, some (.long (zl (-((((-2) * s1) + (z33 * 67108864)) / (2 * (z33 * 67108864)))))), none]) (S' := [.long (zl (-((((-2) * s1) + (z33 * 67108864)) / (2 * (z33 * 67108864))))), .int (((zi 64) * (zi b)) + (zi k)), .ref c53]) (L2 := [some (.ref m), some (.int (zi zq1)), some (.int (zi b)), some (.int (zi k)), some (.long (zl s1)), none, some (.long (zl (z33 * 67108864))), none, some (.long (zl (-((((-2) * s1) + (z33 * 67108864)) / (2 * (z33 * 67108864)))))), none]) (S2 := [.long (zl (-((((-2) * s1) + (z33 * 67108864)) / (2 * (z33 * 67108864))))), .int (zi ((64 * b) + k)), .ref c53]) rfl (by simp only [zi_add, zi_sub, zi_mul, zi_neg, zi_and1, zi_and7, zi_and15, zi_and31, zi_and255, zl_add, zl_sub, zl_mul, zl_neg]) (by simp only [zi_add, zi_sub, zi_mul, zi_neg, zi_and1, zi_and7, zi_and15, zi_and31, zi_and255, zl_add, zl_sub, zl_mul, zl_neg]) ?_
                      refine gy_l2i rfl (by decide) ?_
                      have hl54 : 1024 ≤ h29.2.2.2.1 c53 ∧ h29.2.2.2.1 c53 ≤ 1024 := gJ.rowl (G := gGG) sh29.1 tc53 rfl
                      refine gs_ast rfl (by decide) sh29 tc53 rfl rfl rfl (by decide) (fun _ => rfl) (by omega) (by omega) (fun _ => (by decide : (33999 : Nat) ∈ ([1064, 33999] : List Nat))) (by omega) (by omega) (fun h55 sh55 eh55 fh55 => ?_)
                      have pr56 := gRn.pt fh55 tc53 (by decide) lp28k3
                      have pr57 := gRn.pt fh55 tc53 (by decide) lp28k4
                      have pr58 := gRn.pt fh55 tc53 (by decide) lp28k5
                      have s59 := (fh55 m 50 (fun q => absurd (((tm).symm.trans (congrArg ty q.1)).trans tc53) (by decide))).trans lp28k0
                      have s60 := (fh55 m 51 (fun q => absurd (((tm).symm.trans (congrArg ty q.1)).trans tc53) (by decide))).trans lp28k1
                      have s61 := (fh55 m 64 (fun q => absurd (((tm).symm.trans (congrArg ty q.1)).trans tc53) (by decide))).trans lp28k2
                      have s62 := (fh55 m 65 (fun q => absurd (((tm).symm.trans (congrArg ty q.1)).trans tc53) (by decide))).trans ec31
                      have s63 := (fh55 m 63 (fun q => absurd (((tm).symm.trans (congrArg ty q.1)).trans tc53) (by decide))).trans ec53
                      have pr64 := gEl.set (i := (64 * b) + k) (z := -((((-2) * s1) + (z33 * 67108864)) / (2 * (z33 * 67108864)))) uq tc53 (by decide) eh55 (by omega) (by omega)
                      have hcf65 : -((((-2) * s1) + (z33 * 67108864)) / (2 * (z33 * 67108864))) = eCf C tb cw ch (zup cw 8) (64 * b + k).toNat := by
                        rw [hq9]
                        unfold eCf
                        rw [(by omega : (((64 * b + k).toNat / 64 : Nat) : Int) = b), (by omega : (((64 * b + k).toNat % 64 : Nat) : Int) = k), (by omega : (64 * b + k).toNat % 64 = (k).toNat), hf34, show s1 = eSm C cw ch (b % zup cw 8 * 8) (b / zup cw 8 * 8) (eZz k % 8) (eZz k / 8) by omega]
                      have hcf65x : 64 * b + (k + 1) = 64 * b + k + 1 := by omega
                      have hrw66 : gRn (64 * b + (k + 1)).toNat ty 33 (eCf C tb cw ch (zup cw 8)) h55 := by rw [hcf65x]; exact gRn.ext (z := -((((-2) * s1) + (z33 * 67108864)) / (2 * (z33 * 67108864)))) uq tc53 (by decide) fh55 eh55 (by omega) (by omega) (by omega) hcf65 lp28k7
                      refine gy_s 2 (pc' := 37) (L' := [some (.ref m), some (.int (zi zq1)), some (.int (zi b)), some (.int ((zi k) + zi 1)), some (.long (zl s1)), none, some (.long (zl (z33 * 67108864))), none, some (.long (zl (-((((-2) * s1) + (z33 * 67108864)) / (2 * (z33 * 67108864)))))), none]) (S' := []) (L2 := [some (.ref m), some (.int (zi zq1)), some (.int (zi b)), some (.int (zi (k + 1))), some (.long (zl s1)), none, some (.long (zl (z33 * 67108864))), none, some (.long (zl (-((((-2) * s1) + (z33 * 67108864)) / (2 * (z33 * 67108864)))))), none]) (S2 := []) rfl (by simp only [zi_add, zi_sub, zi_mul, zi_neg, zi_and1, zi_and7, zi_and15, zi_and31, zi_and255, zl_add, zl_sub, zl_mul, zl_neg]) (by simp only [zi_add, zi_sub, zi_mul, zi_neg, zi_and1, zi_and7, zi_and15, zi_and31, zi_and255, zl_add, zl_sub, zl_mul, zl_neg]) ?_
                      exact gz_wk (ihlp24 h55 (k + 1) (by omega) sh55 (by omega) s59 s60 s61 pr56 pr57 pr58 lp28k6 hrw66) (gLw.s (gLw.s (gLw.s (gLw.s (gLw.n (gLw.n (gLw.n (gLw.n (gLw.n (gLw.n gLw.z))))))))))
                  · refine gy_icF rfl (by decide) (by decide) (by omega) (by omega) hc30 ?_
                    refine gz_s 2 (pc' := 59) (L' := [some (.ref m), some (.int (zi zq1)), some (.int (zi b)), some (.int (zi k)), some (.long (zl s1)), none, some (.int (zi y)), some (.int (zi 0)), none, none]) (S' := []) rfl ?_
                    have lp67 : ∀ (fu : Nat) (h68 : gH) (s2 : Int) (x : Int), (9 - x).toNat < fu → gSs rT 1027 ty [1064, 33999] h h68 → ((-137438953472) ≤ s2 ∧ s2 ≤ 137438953472) → (0 ≤ x ∧ x ≤ 8) → (-(17179869184 * y + 2147483648 * x) ≤ s2) → (s2 ≤ 17179869184 * y + 2147483648 * x) → (s2 = s1 + eS8 (eG8 C cw ch (b % zup cw 8 * 8) (b / zup cw 8 * 8) (eZz k % 8) (eZz k / 8) y) (x).toNat) → h68.2.2.2.2 m 50 = .int (zi cw) → h68.2.2.2.2 m 51 = .int (zi ch) → h68.2.2.2.2 m 64 = .int (zi (zq1 * zq7)) → gRn 1024 ty 26 C h68 → gRn 64 ty 34 tb h68 → gRn 64 ty 10 (fun i9 => eZz ((i9 : Nat) : Int)) h68 → (∀ j9 : Nat, j9 < 64 → 1 ≤ tb j9 ∧ tb j9 ≤ 255) → gRn (64 * b + k).toNat ty 33 (eCf C tb cw ch (zup cw 8)) h68 → gz gPP gGG gcn (d + 1) gt184 59 [some (.ref m), some (.int (zi zq1)), some (.int (zi b)), some (.int (zi k)), some (.long (zl s2)), none, some (.int (zi y)), some (.int (zi x)), none, none] [] h68 (fun q _ => gSs rT 1027 ty [1064, 33999] h q.2.2 ∧ ∃ mb1 : Int, gfin gt184 q.1 q.2.1 = some none ∧ q.2.2.2.2.2.2 m 64 = .int (zi mb1) ∧ 1 ≤ mb1 ∧ mb1 ≤ 16 ∧ (mb1 = zup cw 8 * zup ch 8) ∧ (gRn (64 * mb1).toNat ty 33 (eCf C tb cw ch (zup cw 8)) q.2.2)) := by
                      intro fu
                      induction fu with
                      | zero => intro h68 s2 x hm; exact absurd hm (Nat.not_lt_zero _)
                      | succ fu ihlp67 =>
                        intro h68 s2 x lp67m sh68 lp67f0 lp67f1 lp67f2 lp67f3 lp67f4 lp67k0 lp67k1 lp67k2 lp67k3 lp67k4 lp67k5 lp67k6 lp67k7
                        refine gz_s 2 (pc' := 63) (L' := [some (.ref m), some (.int (zi zq1)), some (.int (zi b)), some (.int (zi k)), some (.long (zl s2)), none, some (.int (zi y)), some (.int (zi x)), none, none]) (S' := [.int (zi 8), .int (zi x)]) rfl ?_
                        by_cases hc69 : (8 : Int) ≤ x
                        · refine gy_icT (pc' := 131) rfl (by decide) (by decide) (by omega) (by omega) hc69 ?_
                          have hye := eG8_e (C := C) (w := cw) (h := ch) (l := (b % zup cw 8 * 8)) (t := (b / zup cw 8 * 8)) (u := (eZz k % 8)) (v := (eZz k / 8)) (y := y) (x := x) (by omega) (by omega)
                          refine gy_s 2 (pc' := 49) (L' := [some (.ref m), some (.int (zi zq1)), some (.int (zi b)), some (.int (zi k)), some (.long (zl s2)), none, some (.int ((zi y) + zi 1)), some (.int (zi x)), none, none]) (S' := []) (L2 := [some (.ref m), some (.int (zi zq1)), some (.int (zi b)), some (.int (zi k)), some (.long (zl s2)), none, some (.int (zi (y + 1))), some (.int (zi x)), none, none]) (S2 := []) rfl (by simp only [zi_add, zi_sub, zi_mul, zi_neg, zi_and1, zi_and7, zi_and15, zi_and31, zi_and255, zl_add, zl_sub, zl_mul, zl_neg]) (by simp only [zi_add, zi_sub, zi_mul, zi_neg, zi_and1, zi_and7, zi_and15, zi_and31, zi_and255, zl_add, zl_sub, zl_mul, zl_neg]) ?_
                          exact gz_wk (ihlp28 h68 s2 (y + 1) (by omega) sh68 (by omega) (by omega) (by omega) (by omega) (by omega) lp67k0 lp67k1 lp67k2 lp67k3 lp67k4 lp67k5 lp67k6 lp67k7) (gLw.s (gLw.s (gLw.s (gLw.s (gLw.s (gLw.n (gLw.s (gLw.n (gLw.n (gLw.n gLw.z))))))))))
                        · refine gy_icF rfl (by decide) (by decide) (by omega) (by omega) hc69 ?_
                          refine gz_s 2 (pc' := 69) (L' := [some (.ref m), some (.int (zi zq1)), some (.int (zi b)), some (.int (zi k)), some (.long (zl s2)), none, some (.int (zi y)), some (.int (zi x)), none, none]) (S' := [.ref m, .long (zl s2)]) rfl ?_
                          refine gs_gtr rfl (by decide) rfl sh68.1 tm rfl rfl rfl (fun c70 ec70 tc70 => ?_)
                          refine gz_s 1 (pc' := 73) (L' := [some (.ref m), some (.int (zi zq1)), some (.int (zi b)), some (.int (zi k)), some (.long (zl s2)), none, some (.int (zi y)), some (.int (zi x)), none, none]) (S' := [.int (zi k), .ref c70, .long (zl s2)]) rfl ?_
                          have hl71 : 64 ≤ h68.2.2.2.1 c70 ∧ h68.2.2.2.1 c70 ≤ 64 := gJ.rowl (G := gGG) sh68.1 tc70 rfl
                          refine gs_ald rfl (by decide) sh68.1 tc70 rfl rfl rfl (by decide) (fun _ => rfl) (by omega) (by omega) (fun z72 ez72 az72 bz72 => ?_)
                          have hf73 := gRn.at (i := k) (z := z72) lp67k5 tc70 ez72 (by omega) (by omega) (by omega)
                          have hz1 : z72 = eZz k := by have h9 := hf73; (try dsimp only at h9); rw [(by omega : (((k).toNat : Nat) : Int) = k)] at h9; exact h9.symm
                          refine gz_s 1 (pc' := 76) (L' := [some (.ref m), some (.int (zi zq1)), some (.int (zi b)), some (.int (zi k)), some (.long (zl s2)), none, some (.int (zi y)), some (.int (zi x)), none, none]) (S' := [.int (zi 8), .int (zi z72), .long (zl s2)]) rfl ?_
                          refine gy_rem rfl (by decide) (by omega) (by omega) ?_
                          refine gz_s 1 (pc' := 79) (L' := [some (.ref m), some (.int (zi zq1)), some (.int (zi b)), some (.int (zi k)), some (.long (zl s2)), none, some (.int (zi y)), some (.int (zi x)), none, none]) (S' := [.int (zi x), .int (zi (z72 % 8)), .long (zl s2)]) rfl ?_
                          refine gz_call rfl (by decide) rfl (by decide) (by decide) (gcal_of rfl rfl rfl (Nat.le_of_ble_eq_true rfl) rfl) (mw_cosine _ sh68.1 (z72 % 8) (by omega) x (by omega) ) (fun q74 _ wq74 => ?_)
                          obtain ⟨pq74, oq74, hq74⟩ := q74
                          obtain ⟨xq74, zq74, gq74, aq74, bq74, uq74_0⟩ := wq74
                          refine ⟨_, gq74, ?_⟩
                          show gz gPP gGG gcn _ _ 82 [some (.ref m), some (.int (zi zq1)), some (.int (zi b)), some (.int (zi k)), some (.long (zl s2)), none, some (.int (zi y)), some (.int (zi x)), none, none] [.int (zi zq74), .long (zl s2)] hq74 _
                          have sq74 := gSs.tr sh68 xq74 (by decide)
                          have s75 := (xq74.2.2.2.2.2 m 50 (by rw [tm]; decide)).trans lp67k0
                          have s76 := (xq74.2.2.2.2.2 m 51 (by rw [tm]; decide)).trans lp67k1
                          have s77 := (xq74.2.2.2.2.2 m 64 (by rw [tm]; decide)).trans lp67k2
                          have s78 := (xq74.2.2.2.2.2 m 15 (by rw [tm]; decide)).trans ec70
                          have pr79 := gRn.fr xq74.2 (by decide) lp67k3
                          have pr80 := gRn.fr xq74.2 (by decide) lp67k4
                          have pr81 := gRn.fr xq74.2 (by decide) lp67k5
                          have pr82 := gRn.fr xq74.2 (by decide) lp67k7
                          have hc1 : zq74 = eCs (eZz k % 8) x := by have h9 := uq74_0; rw [hz1] at h9; exact h9
                          refine gz_s 1 (pc' := 83) (L' := [some (.ref m), some (.int (zi zq1)), some (.int (zi b)), some (.int (zi k)), some (.long (zl s2)), none, some (.int (zi y)), some (.int (zi x)), none, none]) (S' := [.ref m, .int (zi zq74), .long (zl s2)]) rfl ?_
                          refine gs_gtk rfl (by decide) rfl sq74.1 tm rfl rfl s78 ?_
                          refine gz_s 1 (pc' := 87) (L' := [some (.ref m), some (.int (zi zq1)), some (.int (zi b)), some (.int (zi k)), some (.long (zl s2)), none, some (.int (zi y)), some (.int (zi x)), none, none]) (S' := [.int (zi k), .ref c70, .int (zi zq74), .long (zl s2)]) rfl ?_
                          have hl83 : 64 ≤ hq74.2.2.2.1 c70 ∧ hq74.2.2.2.1 c70 ≤ 64 := gJ.rowl (G := gGG) sq74.1 tc70 rfl
                          refine gs_ald rfl (by decide) sq74.1 tc70 rfl rfl rfl (by decide) (fun _ => rfl) (by omega) (by omega) (fun z84 ez84 az84 bz84 => ?_)
                          have hf85 := gRn.at (i := k) (z := z84) pr81 tc70 ez84 (by omega) (by omega) (by omega)
                          have hz2 : z84 = eZz k := by have h9 := hf85; (try dsimp only at h9); rw [(by omega : (((k).toNat : Nat) : Int) = k)] at h9; exact h9.symm
                          refine gz_s 1 (pc' := 90) (L' := [some (.ref m), some (.int (zi zq1)), some (.int (zi b)), some (.int (zi k)), some (.long (zl s2)), none, some (.int (zi y)), some (.int (zi x)), none, none]) (S' := [.int (zi 8), .int (zi z84), .int (zi zq74), .long (zl s2)]) rfl ?_
                          refine gy_div rfl (by decide) (by omega) (by omega) ?_
                          refine gz_s 1 (pc' := 93) (L' := [some (.ref m), some (.int (zi zq1)), some (.int (zi b)), some (.int (zi k)), some (.long (zl s2)), none, some (.int (zi y)), some (.int (zi x)), none, none]) (S' := [.int (zi y), .int (zi (z84 / 8)), .int (zi zq74), .long (zl s2)]) rfl ?_
                          refine gz_call rfl (by decide) rfl (by decide) (by decide) (gcal_of rfl rfl rfl (Nat.le_of_ble_eq_true rfl) rfl) (mw_cosine _ sq74.1 (z84 / 8) (by omega) y (by omega) ) (fun q86 _ wq86 => ?_)
                          obtain ⟨pq86, oq86, hq86⟩ := q86
                          obtain ⟨xq86, zq86, gq86, aq86, bq86, uq86_0⟩ := wq86
                          refine ⟨_, gq86, ?_⟩
                          show gz gPP gGG gcn _ _ 96 [some (.ref m), some (.int (zi zq1)), some (.int (zi b)), some (.int (zi k)), some (.long (zl s2)), none, some (.int (zi y)), some (.int (zi x)), none, none] [.int (zi zq86), .int (zi zq74), .long (zl s2)] hq86 _
                          have sq86 := gSs.tr sq74 xq86 (by decide)
                          have s87 := (xq86.2.2.2.2.2 m 50 (by rw [tm]; decide)).trans s75
                          have s88 := (xq86.2.2.2.2.2 m 51 (by rw [tm]; decide)).trans s76
                          have s89 := (xq86.2.2.2.2.2 m 64 (by rw [tm]; decide)).trans s77
                          have s90 := (xq86.2.2.2.2.2 m 15 (by rw [tm]; decide)).trans s78
                          have pr91 := gRn.fr xq86.2 (by decide) pr79
                          have pr92 := gRn.fr xq86.2 (by decide) pr80
                          have pr93 := gRn.fr xq86.2 (by decide) pr81
                          have pr94 := gRn.fr xq86.2 (by decide) pr82
                          have hc2 : zq86 = eCs (eZz k / 8) y := by have h9 := uq86_0; rw [hz2] at h9; exact h9
                          have hx95 := zx_s (a := zq74) (b := zq86) (A := 4096) (B := 4096) (by omega) (by omega) (by omega) (by omega)
                          refine gy_s 1 (pc' := 97) (L' := [some (.ref m), some (.int (zi zq1)), some (.int (zi b)), some (.int (zi k)), some (.long (zl s2)), none, some (.int (zi y)), some (.int (zi x)), none, none]) (S' := [.int ((zi zq74) * (zi zq86)), .long (zl s2)]) (L2 := [some (.ref m), some (.int (zi zq1)), some (.int (zi b)), some (.int (zi k)), some (.long (zl s2)), none, some (.int (zi y)), some (.int (zi x)), none, none]) (S2 := [.int (zi (zq74 * zq86)), .long (zl s2)]) rfl (by simp only [zi_add, zi_sub, zi_mul, zi_neg, zi_and1, zi_and7, zi_and15, zi_and31, zi_and255, zl_add, zl_sub, zl_mul, zl_neg]) (by simp only [zi_add, zi_sub, zi_mul, zi_neg, zi_and1, zi_and7, zi_and15, zi_and31, zi_and255, zl_add, zl_sub, zl_mul, zl_neg]) ?_
                          refine gy_i2l rfl (by decide) (by omega) ?_
                          refine gz_s 3 (pc' := 101) (L' := [some (.ref m), some (.int (zi zq1)), some (.int (zi b)), some (.int (zi k)), some (.long (zl s2)), none, some (.int (zi y)), some (.int (zi x)), none, none]) (S' := [.int (zi zq1), .int (zi b), .ref m, .long (zl (zq74 * zq86)), .long (zl s2)]) rfl ?_
                          refine gy_rem rfl (by decide) (by omega) (by omega) ?_
                          have hd96 := zm_f (x := b) (y := zq1) (by omega) (by omega)
                          refine gy_s 6 (pc' := 110) (L' := [some (.ref m), some (.int (zi zq1)), some (.int (zi b)), some (.int (zi k)), some (.long (zl s2)), none, some (.int (zi y)), some (.int (zi x)), none, none]) (S' := [.int (zi zq1), .int (zi b), .int (((zi (b % zq1)) * (zi 8)) + (zi x)), .ref m, .long (zl (zq74 * zq86)), .long (zl s2)]) (L2 := [some (.ref m), some (.int (zi zq1)), some (.int (zi b)), some (.int (zi k)), some (.long (zl s2)), none, some (.int (zi y)), some (.int (zi x)), none, none]) (S2 := [.int (zi zq1), .int (zi b), .int (zi (((b % zq1) * 8) + x)), .ref m, .long (zl (zq74 * zq86)), .long (zl s2)]) rfl (by simp only [zi_add, zi_sub, zi_mul, zi_neg, zi_and1, zi_and7, zi_and15, zi_and31, zi_and255, zl_add, zl_sub, zl_mul, zl_neg]) (by simp only [zi_add, zi_sub, zi_mul, zi_neg, zi_and1, zi_and7, zi_and15, zi_and31, zi_and255, zl_add, zl_sub, zl_mul, zl_neg]) ?_
                          refine gy_div rfl (by decide) (by omega) (by omega) ?_
                          have hd97 := zd_f (x := b) (y := zq1) (by omega) (by omega)
                          refine gy_s 4 (pc' := 117) (L' := [some (.ref m), some (.int (zi zq1)), some (.int (zi b)), some (.int (zi k)), some (.long (zl s2)), none, some (.int (zi y)), some (.int (zi x)), none, none]) (S' := [.int (((zi (b / zq1)) * (zi 8)) + (zi y)), .int (zi (((b % zq1) * 8) + x)), .ref m, .long (zl (zq74 * zq86)), .long (zl s2)]) (L2 := [some (.ref m), some (.int (zi zq1)), some (.int (zi b)), some (.int (zi k)), some (.long (zl s2)), none, some (.int (zi y)), some (.int (zi x)), none, none]) (S2 := [.int (zi (((b / zq1) * 8) + y)), .int (zi (((b % zq1) * 8) + x)), .ref m, .long (zl (zq74 * zq86)), .long (zl s2)]) rfl (by simp only [zi_add, zi_sub, zi_mul, zi_neg, zi_and1, zi_and7, zi_and15, zi_and31, zi_and255, zl_add, zl_sub, zl_mul, zl_neg]) (by simp only [zi_add, zi_sub, zi_mul, zi_neg, zi_and1, zi_and7, zi_and15, zi_and31, zi_and255, zl_add, zl_sub, zl_mul, zl_neg]) ?_
                          refine gz_call rfl (by decide) rfl (by decide) (by decide) (gcal_of rfl rfl rfl (Nat.le_of_ble_eq_true rfl) (gJ.recv (G := gGG) sq86.1 tm rfl rfl)) (mw_pointOf _ sq86.1 m tm (((b % zq1) * 8) + x) (by omega) (((b / zq1) * 8) + y) (by omega) cw s87 (by omega) ch s88 (by omega) C uq pr91) (fun q98 _ wq98 => ?_)
                          obtain ⟨pq98, oq98, hq98⟩ := q98
                          obtain ⟨xq98, zq98, gq98, aq98, bq98, uq98_0⟩ := wq98
                          refine ⟨_, gq98, ?_⟩
                          show gz gPP gGG gcn _ _ 120 [some (.ref m), some (.int (zi zq1)), some (.int (zi b)), some (.int (zi k)), some (.long (zl s2)), none, some (.int (zi y)), some (.int (zi x)), none, none] [.int (zi zq98), .long (zl (zq74 * zq86)), .long (zl s2)] hq98 _
                          have sq98 := gSs.tr sq86 xq98 (by decide)
                          have s99 := (xq98.2.2.2.2.2 m 50 (by rw [tm]; decide)).trans s87
                          have s100 := (xq98.2.2.2.2.2 m 51 (by rw [tm]; decide)).trans s88
                          have s101 := (xq98.2.2.2.2.2 m 64 (by rw [tm]; decide)).trans s89
                          have s102 := (xq98.2.2.2.2.2 m 15 (by rw [tm]; decide)).trans s90
                          have pr103 := gRn.fr xq98.2 (by decide) pr91
                          have pr104 := gRn.fr xq98.2 (by decide) pr92
                          have pr105 := gRn.fr xq98.2 (by decide) pr93
                          have pr106 := gRn.fr xq98.2 (by decide) pr94
                          refine gy_i2l rfl (by decide) (by omega) ?_
                          have hx107 := zx_s (a := zq74 * zq86) (b := zq98) (A := 16777216) (B := 128) (by omega) (by omega) (by omega) (by omega)
                          refine gy_s 3 (pc' := 125) (L' := [some (.ref m), some (.int (zi zq1)), some (.int (zi b)), some (.int (zi k)), some (.long ((zl s2) + ((zl (zq74 * zq86)) * (zl zq98)))), none, some (.int (zi y)), some (.int (zi x)), none, none]) (S' := []) (L2 := [some (.ref m), some (.int (zi zq1)), some (.int (zi b)), some (.int (zi k)), some (.long (zl (s2 + ((zq74 * zq86) * zq98)))), none, some (.int (zi y)), some (.int (zi x)), none, none]) (S2 := []) rfl (by simp only [zi_add, zi_sub, zi_mul, zi_neg, zi_and1, zi_and7, zi_and15, zi_and31, zi_and255, zl_add, zl_sub, zl_mul, zl_neg]) (by simp only [zi_add, zi_sub, zi_mul, zi_neg, zi_and1, zi_and7, zi_and15, zi_and31, zi_and255, zl_add, zl_sub, zl_mul, zl_neg]) ?_
                          have hst := eG8_s (C := C) (w := cw) (h := ch) (l := (b % zup cw 8 * 8)) (t := (b / zup cw 8 * 8)) (u := (eZz k % 8)) (v := (eZz k / 8)) (y := y) (x := x) (p := zq74) (q := zq86) (r := zq98) (by omega) hc1 hc2 (by have h9 := uq98_0; rw [hcl] at h9; exact h9)
                          refine gy_s 2 (pc' := 59) (L' := [some (.ref m), some (.int (zi zq1)), some (.int (zi b)), some (.int (zi k)), some (.long (zl (s2 + ((zq74 * zq86) * zq98)))), none, some (.int (zi y)), some (.int ((zi x) + zi 1)), none, none]) (S' := []) (L2 := [some (.ref m), some (.int (zi zq1)), some (.int (zi b)), some (.int (zi k)), some (.long (zl (s2 + ((zq74 * zq86) * zq98)))), none, some (.int (zi y)), some (.int (zi (x + 1))), none, none]) (S2 := []) rfl (by simp only [zi_add, zi_sub, zi_mul, zi_neg, zi_and1, zi_and7, zi_and15, zi_and31, zi_and255, zl_add, zl_sub, zl_mul, zl_neg]) (by simp only [zi_add, zi_sub, zi_mul, zi_neg, zi_and1, zi_and7, zi_and15, zi_and31, zi_and255, zl_add, zl_sub, zl_mul, zl_neg]) ?_
                          exact gz_wk (ihlp67 hq98 (s2 + ((zq74 * zq86) * zq98)) (x + 1) (by omega) sq98 (by omega) (by omega) (by omega) (by omega) (by omega) s99 s100 s101 pr103 pr104 pr105 lp67k6 pr106) (gLw.s (gLw.s (gLw.s (gLw.s (gLw.s (gLw.n (gLw.s (gLw.s (gLw.n (gLw.n gLw.z))))))))))
                    have hs1 : eS8 (eG8 C cw ch (b % zup cw 8 * 8) (b / zup cw 8 * 8) (eZz k % 8) (eZz k / 8) y) (0 : Int).toNat = 0 := rfl
                    exact gz_wk (lp67 _ h29 s1 0 (Nat.lt_succ_self _) sh29 (by omega) (by omega) (by omega) (by omega) (by omega) lp28k0 lp28k1 lp28k2 lp28k3 lp28k4 lp28k5 lp28k6 lp28k7) (gLw.s (gLw.s (gLw.s (gLw.s (gLw.s (gLw.n (gLw.s (gLw.s (gLw.n (gLw.n gLw.z))))))))))
              have hs0 : eS8 (eH8 C cw ch (b % zup cw 8 * 8) (b / zup cw 8 * 8) (eZz k % 8) (eZz k / 8)) (0 : Int).toNat = 0 := rfl
              exact gz_wk (lp28 _ h25 0 0 (Nat.lt_succ_self _) sh25 (by omega) (by omega) (by omega) (by omega) (by omega) lp24k0 lp24k1 lp24k2 lp24k3 lp24k4 lp24k5 lp24k6 lp24k7) (gLw.s (gLw.s (gLw.s (gLw.s (gLw.s (gLw.n (gLw.s (gLw.n (gLw.n (gLw.n gLw.z))))))))))
        exact gz_wk (lp24 _ h21 0 (Nat.lt_succ_self _) sh21 (by omega) lp20k0 lp20k1 lp20k2 lp20k3 lp20k4 lp20k5 lp20k6 (show gRn (64 * b + 0).toNat _ _ _ _ by rw [(by omega : 64 * b + 0 = 64 * b)]; exact lp20k7)) (gLw.s (gLw.s (gLw.s (gLw.s (gLw.n (gLw.n (gLw.n (gLw.n (gLw.n (gLw.n gLw.z))))))))))
  exact gz_wk (lp20 _ h14 0 (Nat.lt_succ_self _) sh14 (by omega) (by omega) s18 s19 eh14 pr15 pr16 pr17 hytbp (show gRn (64 * (0 : Int)).toNat _ _ _ _ from gRn.nil (fun _ => rfl))) (gLw.s (gLw.s (gLw.s (gLw.n (gLw.n (gLw.n (gLw.n (gLw.n (gLw.n (gLw.n gLw.z))))))))))
