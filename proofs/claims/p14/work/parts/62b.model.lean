/-! ===== the model: methods (by program) ===== -/
set_option maxRecDepth 20000 in
set_option maxHeartbeats 4000000 in
theorem mm_bit (d : Nat) {ty : Nat → Nat} {h : gH} (hJ : gJ rT 1027 ty h) (m : Nat) (tm : ty m = 1) (a0 : Int) (ea0 : h.2.2.2.2 m 47 = .int (zi a0)) (ra0 : 0 ≤ a0 ∧ a0 ≤ 2001) (k0 : Int) (ek0 : h.2.2.2.2 m 48 = .int (zi k0)) (rk0 : 0 ≤ k0 ∧ k0 ≤ 7) (sz : Int) (esz : h.2.2.2.2 m 3 = .int (zi sz)) (rsz : 0 ≤ sz ∧ sz ≤ 2000) (u0 : Int) (eu0 : h.2.2.2.2 m 46 = .int (zi u0)) (ru0 : 0 ≤ u0 ∧ u0 ≤ 1) (p0 : k0 = 0 ∨ a0 < sz) : gz gPP gGG gcn (d + 1) gt156 0 (gent [.ref m] 2) [] h (fun q _ => gSs rT 1027 ty [1046, 1047, 1048] h q.2.2 ∧ ∃ z a1 k1 u1 : Int, gfin gt156 q.1 q.2.1 = some (some (.int (zi z))) ∧ 0 ≤ z ∧ z ≤ 1 ∧ q.2.2.2.2.2.2 m 47 = .int (zi a1) ∧ 0 ≤ a1 ∧ a1 ≤ 2001 ∧ q.2.2.2.2.2.2 m 48 = .int (zi k1) ∧ 0 ≤ k1 ∧ k1 ≤ 7 ∧ q.2.2.2.2.2.2 m 46 = .int (zi u1) ∧ 0 ≤ u1 ∧ u1 ≤ 1 ∧ (k1 = 0 ∨ a1 < sz) ∧ (a0 ≤ a1) ∧ (u1 = 0 → u0 = 0)) := by
  have hS : gSs rT 1027 ty [1046, 1047, 1048] h h := gSs.rf hJ
  refine gz_s 1 (pc' := 1) (L' := [some (.ref m), none]) (S' := [.ref m]) rfl ?_
  refine gs_gtk rfl (by decide) rfl hS.1 tm rfl rfl ek0 ?_
  by_cases hc1 : ¬ (k0 : Int) = 0
  · refine gy_ifT (pc' := 86) rfl (by decide) (by decide) (by omega) hc1 ?_
    refine gz_s 1 (pc' := 87) (L' := [some (.ref m), none]) (S' := [.ref m]) rfl ?_
    refine gs_gtk rfl (by decide) rfl hS.1 tm rfl rfl eu0 ?_
    by_cases hc2 : (u0 : Int) = 0
    · refine gy_ifT (pc' := 95) rfl (by decide) (by decide) (by omega) hc2 ?_
      refine gz_s 1 (pc' := 96) (L' := [some (.ref m), none]) (S' := [.ref m]) rfl ?_
      refine gs_gtr rfl (by decide) rfl hS.1 tm rfl rfl rfl (fun c3 ec3 tc3 => ?_)
      refine gz_s 1 (pc' := 100) (L' := [some (.ref m), none]) (S' := [.ref m, .ref c3]) rfl ?_
      refine gs_gtk rfl (by decide) rfl hS.1 tm rfl rfl ea0 ?_
      have hl4 : 2000 ≤ h.2.2.2.1 c3 ∧ h.2.2.2.1 c3 ≤ 2000 := gJ.rowl (G := gGG) hS.1 tc3 rfl
      refine gs_ald rfl (by decide) hS.1 tc3 rfl rfl rfl (by decide) (fun _ => rfl) (by omega) (by omega) (fun z5 ez5 az5 bz5 => ?_)
      refine gz_s 2 (pc' := 107) (L' := [some (.ref m), none]) (S' := [.ref m, .int (zi 7), .int (zi z5)]) rfl ?_
      refine gs_gtk rfl (by decide) rfl hS.1 tm rfl rfl ek0 ?_
      refine gy_s 1 (pc' := 111) (L' := [some (.ref m), none]) (S' := [.int ((zi 7) - (zi k0)), .int (zi z5)]) (L2 := [some (.ref m), none]) (S2 := [.int (zi (7 - k0)), .int (zi z5)]) rfl (by simp only [zi_add, zi_sub, zi_mul, zi_neg, zi_and1, zi_and7, zi_and15, zi_and31, zi_and255]) (by simp only [zi_add, zi_sub, zi_mul, zi_neg, zi_and1, zi_and7, zi_and15, zi_and31, zi_and255]) ?_
      refine gy_shv rfl (by decide) (by omega) (by omega) (fun z6 az6 bz6 => ?_)
      refine gy_s 5 (pc' := 117) (L' := [some (.ref m), some (.int ((zi z6) &&& (zi 1)))]) (S' := [.ref m, .ref m]) (L2 := [some (.ref m), some (.int (zi (z6 % 2)))]) (S2 := [.ref m, .ref m]) rfl (by simp only [zi_add, zi_sub, zi_mul, zi_neg, zi_and1, zi_and7, zi_and15, zi_and31, zi_and255]) (by simp only [zi_add, zi_sub, zi_mul, zi_neg, zi_and1, zi_and7, zi_and15, zi_and31, zi_and255]) ?_
      refine gs_gtk rfl (by decide) rfl hS.1 tm rfl rfl ek0 ?_
      refine gy_s 2 (pc' := 122) (L' := [some (.ref m), some (.int (zi (z6 % 2)))]) (S' := [.int ((zi k0) + (zi 1)), .ref m]) (L2 := [some (.ref m), some (.int (zi (z6 % 2)))]) (S2 := [.int (zi (k0 + 1)), .ref m]) rfl (by simp only [zi_add, zi_sub, zi_mul, zi_neg, zi_and1, zi_and7, zi_and15, zi_and31, zi_and255]) (by simp only [zi_add, zi_sub, zi_mul, zi_neg, zi_and1, zi_and7, zi_and15, zi_and31, zi_and255]) ?_
      refine gs_put rfl (by decide) rfl hS tm rfl rfl rfl rfl (Or.inl rfl) (by decide) (by omega) (by omega) (fun h7 sh7 eh7 fh7 => ?_)
      have s8 := (fh7 m 47 (fun q => absurd q.2 (by decide))).trans ea0
      have s9 := (fh7 m 3 (fun q => absurd q.2 (by decide))).trans esz
      have s10 := (fh7 m 46 (fun q => absurd q.2 (by decide))).trans eu0
      have s11 := (fh7 m 4 (fun q => absurd q.2 (by decide))).trans ec3
      refine gz_s 1 (pc' := 126) (L' := [some (.ref m), some (.int (zi (z6 % 2)))]) (S' := [.ref m]) rfl ?_
      refine gs_gtk rfl (by decide) rfl sh7.1 tm rfl rfl eh7 ?_
      refine gz_s 1 (pc' := 131) (L' := [some (.ref m), some (.int (zi (z6 % 2)))]) (S' := [.int (zi 8), .int (zi (k0 + 1))]) rfl ?_
      by_cases hc12 : ¬ (k0 + 1 : Int) = 8
      · refine gy_icT (pc' := 147) rfl (by decide) (by decide) (by omega) (by omega) hc12 ?_
        refine gz_s 1 (pc' := 148) (L' := [some (.ref m), some (.int (zi (z6 % 2)))]) (S' := [.int (zi (z6 % 2))]) rfl ?_
        exact gz_end (I := .ireturn) (len := 1) rfl (Or.inl rfl) ⟨sh7, z6 % 2, a0, k0 + 1, u0, rfl, (by omega), (by omega), s8, (by omega), (by omega), eh7, (by omega), (by omega), s10, (by omega), (by omega), (by omega), (by omega), (by omega)⟩
      · refine gy_icF rfl (by decide) (by decide) (by omega) (by omega) hc12 ?_
        refine gz_s 2 (pc' := 136) (L' := [some (.ref m), some (.int (zi (z6 % 2)))]) (S' := [.ref m, .ref m]) rfl ?_
        refine gz_call rfl (by decide) rfl (by decide) (by decide) (gcal_of rfl rfl rfl (Nat.le_of_ble_eq_true rfl) (gJ.recv (G := gGG) sh7.1 tm rfl rfl)) (mm_nextByte _ sh7.1 m tm a0 s8 (by omega) (k0 + 1) eh7 (by omega) sz s9 (by omega) (by omega)) (fun q13 _ wq13 => ?_)
        obtain ⟨pq13, oq13, hq13⟩ := q13
        obtain ⟨xq13, zq13, gq13, aq13, bq13, uq13_0, uq13_1, uq13_2, uq13_3⟩ := wq13
        refine ⟨_, gq13, ?_⟩
        show gz gPP gGG gcn _ _ 139 [some (.ref m), some (.int (zi (z6 % 2)))] [.int (zi zq13), .ref m] hq13 _
        have sq13 := gSs.tr sh7 xq13 (by decide)
        have s14 := (xq13.2.2.2.2.2 m 47 (by rw [tm]; decide)).trans s8
        have s15 := (xq13.2.2.2.2.2 m 3 (by rw [tm]; decide)).trans s9
        have s16 := (xq13.2.2.2.2.2 m 46 (by rw [tm]; decide)).trans s10
        have s17 := (xq13.2.2.2.2.2 m 4 (by rw [tm]; decide)).trans s11
        have s18 := (xq13.2.2.2.2.2 m 48 (by rw [tm]; decide)).trans eh7
        refine gs_put rfl (by decide) rfl sq13 tm rfl rfl rfl rfl (Or.inl rfl) (by decide) (by omega) (by omega) (fun h19 sh19 eh19 fh19 => ?_)
        have s20 := (fh19 m 3 (fun q => absurd q.2 (by decide))).trans s15
        have s21 := (fh19 m 46 (fun q => absurd q.2 (by decide))).trans s16
        have s22 := (fh19 m 4 (fun q => absurd q.2 (by decide))).trans s17
        have s23 := (fh19 m 48 (fun q => absurd q.2 (by decide))).trans s18
        refine gz_s 2 (pc' := 144) (L' := [some (.ref m), some (.int (zi (z6 % 2)))]) (S' := [.int (zi 0), .ref m]) rfl ?_
        refine gs_put rfl (by decide) rfl sh19 tm rfl rfl rfl rfl (Or.inl rfl) (by decide) (by omega) (by omega) (fun h24 sh24 eh24 fh24 => ?_)
        have s25 := (fh24 m 3 (fun q => absurd q.2 (by decide))).trans s20
        have s26 := (fh24 m 46 (fun q => absurd q.2 (by decide))).trans s21
        have s27 := (fh24 m 4 (fun q => absurd q.2 (by decide))).trans s22
        have s28 := (fh24 m 47 (fun q => absurd q.2 (by decide))).trans eh19
        refine gz_s 1 (pc' := 148) (L' := [some (.ref m), some (.int (zi (z6 % 2)))]) (S' := [.int (zi (z6 % 2))]) rfl ?_
        exact gz_end (I := .ireturn) (len := 1) rfl (Or.inl rfl) ⟨sh24, z6 % 2, zq13, 0, u0, rfl, (by omega), (by omega), s28, (by omega), (by omega), eh24, (by omega), (by omega), s26, (by omega), (by omega), (by omega), (by omega), (by omega)⟩
    · refine gy_ifF rfl (by decide) (by decide) (by omega) hc2 ?_
      refine gz_s 1 (pc' := 94) (L' := [some (.ref m), none]) (S' := [.int (zi 0)]) rfl ?_
      exact gz_end (I := .ireturn) (len := 1) rfl (Or.inl rfl) ⟨hS, 0, a0, k0, u0, rfl, (by omega), (by omega), ea0, (by omega), (by omega), ek0, (by omega), (by omega), eu0, (by omega), (by omega), (by omega), (by omega), (by omega)⟩
  · refine gy_ifF rfl (by decide) (by decide) (by omega) hc1 ?_
    refine gz_s 1 (pc' := 8) (L' := [some (.ref m), none]) (S' := [.ref m]) rfl ?_
    refine gs_gtk rfl (by decide) rfl hS.1 tm rfl rfl ea0 ?_
    refine gz_s 1 (pc' := 12) (L' := [some (.ref m), none]) (S' := [.ref m, .int (zi a0)]) rfl ?_
    refine gs_gtk rfl (by decide) rfl hS.1 tm rfl rfl esz ?_
    by_cases hc29 : (sz : Int) ≤ a0
    · refine gy_icT (pc' := 64) rfl (by decide) (by decide) (by omega) (by omega) hc29 ?_
      refine gz_s 4 (pc' := 68) (L' := [some (.ref m), some (.int (zi 0))]) (S' := [.ref m, .ref m]) rfl ?_
      refine gs_gtk rfl (by decide) rfl hS.1 tm rfl rfl eu0 ?_
      by_cases hc30 : ¬ (u0 : Int) = 0
      · refine gy_ifT (pc' := 78) rfl (by decide) (by decide) (by omega) hc30 ?_
        refine gz_s 2 (pc' := 83) (L' := [some (.ref m), some (.int (zi 0))]) (S' := [.int (zi 1), .ref m]) rfl ?_
        refine gs_put rfl (by decide) rfl hS tm rfl rfl rfl rfl (Or.inl rfl) (by decide) (by omega) (by omega) (fun h31 sh31 eh31 fh31 => ?_)
        have s32 := (fh31 m 47 (fun q => absurd q.2 (by decide))).trans ea0
        have s33 := (fh31 m 48 (fun q => absurd q.2 (by decide))).trans ek0
        have s34 := (fh31 m 3 (fun q => absurd q.2 (by decide))).trans esz
        refine gz_s 1 (pc' := 87) (L' := [some (.ref m), some (.int (zi 0))]) (S' := [.ref m]) rfl ?_
        refine gs_gtk rfl (by decide) rfl sh31.1 tm rfl rfl eh31 ?_
        refine gy_ifF rfl (by decide) (by decide) (by omega) (by first | (simp [zc]; done) | (simp only [zc]; omega)) ?_
        refine gz_s 1 (pc' := 94) (L' := [some (.ref m), some (.int (zi 0))]) (S' := [.int (zi 0)]) rfl ?_
        exact gz_end (I := .ireturn) (len := 1) rfl (Or.inl rfl) ⟨sh31, 0, a0, k0, 1, rfl, (by omega), (by omega), s32, (by omega), (by omega), s33, (by omega), (by omega), eh31, (by omega), (by omega), (by omega), (by omega), (by omega)⟩
      · refine gy_ifF rfl (by decide) (by decide) (by omega) hc30 ?_
        refine gz_s 1 (pc' := 75) (L' := [some (.ref m), some (.int (zi 0))]) (S' := [.int (zi 0), .ref m]) rfl ?_
        refine gy_ifF rfl (by decide) (by decide) (by omega) (by first | (simp [zc]; done) | (simp only [zc]; omega)) ?_
        refine gz_s 2 (pc' := 83) (L' := [some (.ref m), some (.int (zi 0))]) (S' := [.int (zi 1), .ref m]) rfl ?_
        refine gs_put rfl (by decide) rfl hS tm rfl rfl rfl rfl (Or.inl rfl) (by decide) (by omega) (by omega) (fun h35 sh35 eh35 fh35 => ?_)
        have s36 := (fh35 m 47 (fun q => absurd q.2 (by decide))).trans ea0
        have s37 := (fh35 m 48 (fun q => absurd q.2 (by decide))).trans ek0
        have s38 := (fh35 m 3 (fun q => absurd q.2 (by decide))).trans esz
        refine gz_s 1 (pc' := 87) (L' := [some (.ref m), some (.int (zi 0))]) (S' := [.ref m]) rfl ?_
        refine gs_gtk rfl (by decide) rfl sh35.1 tm rfl rfl eh35 ?_
        refine gy_ifF rfl (by decide) (by decide) (by omega) (by first | (simp [zc]; done) | (simp only [zc]; omega)) ?_
        refine gz_s 1 (pc' := 94) (L' := [some (.ref m), some (.int (zi 0))]) (S' := [.int (zi 0)]) rfl ?_
        exact gz_end (I := .ireturn) (len := 1) rfl (Or.inl rfl) ⟨sh35, 0, a0, k0, 1, rfl, (by omega), (by omega), s36, (by omega), (by omega), s37, (by omega), (by omega), eh35, (by omega), (by omega), (by omega), (by omega), (by omega)⟩
    · refine gy_icF rfl (by decide) (by decide) (by omega) (by omega) hc29 ?_
      refine gz_s 1 (pc' := 19) (L' := [some (.ref m), none]) (S' := [.ref m]) rfl ?_
      refine gs_gtr rfl (by decide) rfl hS.1 tm rfl rfl rfl (fun c39 ec39 tc39 => ?_)
      refine gz_s 1 (pc' := 23) (L' := [some (.ref m), none]) (S' := [.ref m, .ref c39]) rfl ?_
      refine gs_gtk rfl (by decide) rfl hS.1 tm rfl rfl ea0 ?_
      have hl40 : 2000 ≤ h.2.2.2.1 c39 ∧ h.2.2.2.1 c39 ≤ 2000 := gJ.rowl (G := gGG) hS.1 tc39 rfl
      refine gs_ald rfl (by decide) hS.1 tc39 rfl rfl rfl (by decide) (fun _ => rfl) (by omega) (by omega) (fun z41 ez41 az41 bz41 => ?_)
      refine gz_s 1 (pc' := 30) (L' := [some (.ref m), none]) (S' := [.int (zi 255), .int (zi z41)]) rfl ?_
      by_cases hc42 : ¬ (z41 : Int) = 255
      · refine gy_icT (pc' := 60) rfl (by decide) (by decide) (by omega) (by omega) hc42 ?_
        refine gz_s 5 (pc' := 68) (L' := [some (.ref m), some (.int (zi 1))]) (S' := [.ref m, .ref m]) rfl ?_
        refine gs_gtk rfl (by decide) rfl hS.1 tm rfl rfl eu0 ?_
        by_cases hc43 : ¬ (u0 : Int) = 0
        · refine gy_ifT (pc' := 78) rfl (by decide) (by decide) (by omega) hc43 ?_
          refine gz_s 2 (pc' := 83) (L' := [some (.ref m), some (.int (zi 1))]) (S' := [.int (zi 1), .ref m]) rfl ?_
          refine gs_put rfl (by decide) rfl hS tm rfl rfl rfl rfl (Or.inl rfl) (by decide) (by omega) (by omega) (fun h44 sh44 eh44 fh44 => ?_)
          have s45 := (fh44 m 47 (fun q => absurd q.2 (by decide))).trans ea0
          have s46 := (fh44 m 48 (fun q => absurd q.2 (by decide))).trans ek0
          have s47 := (fh44 m 3 (fun q => absurd q.2 (by decide))).trans esz
          have s48 := (fh44 m 4 (fun q => absurd q.2 (by decide))).trans ec39
          refine gz_s 1 (pc' := 87) (L' := [some (.ref m), some (.int (zi 1))]) (S' := [.ref m]) rfl ?_
          refine gs_gtk rfl (by decide) rfl sh44.1 tm rfl rfl eh44 ?_
          refine gy_ifF rfl (by decide) (by decide) (by omega) (by first | (simp [zc]; done) | (simp only [zc]; omega)) ?_
          refine gz_s 1 (pc' := 94) (L' := [some (.ref m), some (.int (zi 1))]) (S' := [.int (zi 0)]) rfl ?_
          exact gz_end (I := .ireturn) (len := 1) rfl (Or.inl rfl) ⟨sh44, 0, a0, k0, 1, rfl, (by omega), (by omega), s45, (by omega), (by omega), s46, (by omega), (by omega), eh44, (by omega), (by omega), (by omega), (by omega), (by omega)⟩
        · refine gy_ifF rfl (by decide) (by decide) (by omega) hc43 ?_
          refine gz_s 1 (pc' := 75) (L' := [some (.ref m), some (.int (zi 1))]) (S' := [.int (zi 1), .ref m]) rfl ?_
          refine gy_ifT (pc' := 82) rfl (by decide) (by decide) (by omega) (by first | (simp [zc]; done) | (simp only [zc]; omega)) ?_
          refine gz_s 1 (pc' := 83) (L' := [some (.ref m), some (.int (zi 1))]) (S' := [.int (zi 0), .ref m]) rfl ?_
          refine gs_put rfl (by decide) rfl hS tm rfl rfl rfl rfl (Or.inl rfl) (by decide) (by omega) (by omega) (fun h49 sh49 eh49 fh49 => ?_)
          have s50 := (fh49 m 47 (fun q => absurd q.2 (by decide))).trans ea0
          have s51 := (fh49 m 48 (fun q => absurd q.2 (by decide))).trans ek0
          have s52 := (fh49 m 3 (fun q => absurd q.2 (by decide))).trans esz
          have s53 := (fh49 m 4 (fun q => absurd q.2 (by decide))).trans ec39
          refine gz_s 1 (pc' := 87) (L' := [some (.ref m), some (.int (zi 1))]) (S' := [.ref m]) rfl ?_
          refine gs_gtk rfl (by decide) rfl sh49.1 tm rfl rfl eh49 ?_
          refine gy_ifT (pc' := 95) rfl (by decide) (by decide) (by omega) (by first | (simp [zc]; done) | (simp only [zc]; omega)) ?_
          refine gz_s 1 (pc' := 96) (L' := [some (.ref m), some (.int (zi 1))]) (S' := [.ref m]) rfl ?_
          refine gs_gtk rfl (by decide) rfl sh49.1 tm rfl rfl s53 ?_
          refine gz_s 1 (pc' := 100) (L' := [some (.ref m), some (.int (zi 1))]) (S' := [.ref m, .ref c39]) rfl ?_
          refine gs_gtk rfl (by decide) rfl sh49.1 tm rfl rfl s50 ?_
          have hl54 : 2000 ≤ h49.2.2.2.1 c39 ∧ h49.2.2.2.1 c39 ≤ 2000 := gJ.rowl (G := gGG) sh49.1 tc39 rfl
          refine gs_ald rfl (by decide) sh49.1 tc39 rfl rfl rfl (by decide) (fun _ => rfl) (by omega) (by omega) (fun z55 ez55 az55 bz55 => ?_)
          refine gz_s 2 (pc' := 107) (L' := [some (.ref m), some (.int (zi 1))]) (S' := [.ref m, .int (zi 7), .int (zi z55)]) rfl ?_
          refine gs_gtk rfl (by decide) rfl sh49.1 tm rfl rfl s51 ?_
          refine gy_s 1 (pc' := 111) (L' := [some (.ref m), some (.int (zi 1))]) (S' := [.int ((zi 7) - (zi k0)), .int (zi z55)]) (L2 := [some (.ref m), some (.int (zi 1))]) (S2 := [.int (zi (7 - k0)), .int (zi z55)]) rfl (by simp only [zi_add, zi_sub, zi_mul, zi_neg, zi_and1, zi_and7, zi_and15, zi_and31, zi_and255]) (by simp only [zi_add, zi_sub, zi_mul, zi_neg, zi_and1, zi_and7, zi_and15, zi_and31, zi_and255]) ?_
          refine gy_shv rfl (by decide) (by omega) (by omega) (fun z56 az56 bz56 => ?_)
          refine gy_s 5 (pc' := 117) (L' := [some (.ref m), some (.int ((zi z56) &&& (zi 1)))]) (S' := [.ref m, .ref m]) (L2 := [some (.ref m), some (.int (zi (z56 % 2)))]) (S2 := [.ref m, .ref m]) rfl (by simp only [zi_add, zi_sub, zi_mul, zi_neg, zi_and1, zi_and7, zi_and15, zi_and31, zi_and255]) (by simp only [zi_add, zi_sub, zi_mul, zi_neg, zi_and1, zi_and7, zi_and15, zi_and31, zi_and255]) ?_
          refine gs_gtk rfl (by decide) rfl sh49.1 tm rfl rfl s51 ?_
          refine gy_s 2 (pc' := 122) (L' := [some (.ref m), some (.int (zi (z56 % 2)))]) (S' := [.int ((zi k0) + (zi 1)), .ref m]) (L2 := [some (.ref m), some (.int (zi (z56 % 2)))]) (S2 := [.int (zi (k0 + 1)), .ref m]) rfl (by simp only [zi_add, zi_sub, zi_mul, zi_neg, zi_and1, zi_and7, zi_and15, zi_and31, zi_and255]) (by simp only [zi_add, zi_sub, zi_mul, zi_neg, zi_and1, zi_and7, zi_and15, zi_and31, zi_and255]) ?_
          refine gs_put rfl (by decide) rfl sh49 tm rfl rfl rfl rfl (Or.inl rfl) (by decide) (by omega) (by omega) (fun h57 sh57 eh57 fh57 => ?_)
          have s58 := (fh57 m 47 (fun q => absurd q.2 (by decide))).trans s50
          have s59 := (fh57 m 3 (fun q => absurd q.2 (by decide))).trans s52
          have s60 := (fh57 m 4 (fun q => absurd q.2 (by decide))).trans s53
          have s61 := (fh57 m 46 (fun q => absurd q.2 (by decide))).trans eh49
          refine gz_s 1 (pc' := 126) (L' := [some (.ref m), some (.int (zi (z56 % 2)))]) (S' := [.ref m]) rfl ?_
          refine gs_gtk rfl (by decide) rfl sh57.1 tm rfl rfl eh57 ?_
          refine gz_s 1 (pc' := 131) (L' := [some (.ref m), some (.int (zi (z56 % 2)))]) (S' := [.int (zi 8), .int (zi (k0 + 1))]) rfl ?_
          refine gy_icT (pc' := 147) rfl (by decide) (by decide) (by omega) (by omega) (by first | (simp [zc]; done) | (simp only [zc]; omega)) ?_
          refine gz_s 1 (pc' := 148) (L' := [some (.ref m), some (.int (zi (z56 % 2)))]) (S' := [.int (zi (z56 % 2))]) rfl ?_
          exact gz_end (I := .ireturn) (len := 1) rfl (Or.inl rfl) ⟨sh57, z56 % 2, a0, k0 + 1, 0, rfl, (by omega), (by omega), s58, (by omega), (by omega), eh57, (by omega), (by omega), s61, (by omega), (by omega), (by omega), (by omega), (by omega)⟩
      · refine gy_icF rfl (by decide) (by decide) (by omega) (by omega) hc42 ?_
        refine gz_s 1 (pc' := 34) (L' := [some (.ref m), none]) (S' := [.ref m]) rfl ?_
        refine gs_gtk rfl (by decide) rfl hS.1 tm rfl rfl ea0 ?_
        refine gy_s 3 (pc' := 40) (L' := [some (.ref m), none]) (S' := [.ref m, .int ((zi a0) + (zi 1))]) (L2 := [some (.ref m), none]) (S2 := [.ref m, .int (zi (a0 + 1))]) rfl (by simp only [zi_add, zi_sub, zi_mul, zi_neg, zi_and1, zi_and7, zi_and15, zi_and31, zi_and255]) (by simp only [zi_add, zi_sub, zi_mul, zi_neg, zi_and1, zi_and7, zi_and15, zi_and31, zi_and255]) ?_
        refine gs_gtk rfl (by decide) rfl hS.1 tm rfl rfl esz ?_
        by_cases hc62 : (sz : Int) ≤ a0 + 1
        · refine gy_icT (pc' := 64) rfl (by decide) (by decide) (by omega) (by omega) hc62 ?_
          refine gz_s 4 (pc' := 68) (L' := [some (.ref m), some (.int (zi 0))]) (S' := [.ref m, .ref m]) rfl ?_
          refine gs_gtk rfl (by decide) rfl hS.1 tm rfl rfl eu0 ?_
          by_cases hc63 : ¬ (u0 : Int) = 0
          · refine gy_ifT (pc' := 78) rfl (by decide) (by decide) (by omega) hc63 ?_
            refine gz_s 2 (pc' := 83) (L' := [some (.ref m), some (.int (zi 0))]) (S' := [.int (zi 1), .ref m]) rfl ?_
            refine gs_put rfl (by decide) rfl hS tm rfl rfl rfl rfl (Or.inl rfl) (by decide) (by omega) (by omega) (fun h64 sh64 eh64 fh64 => ?_)
            have s65 := (fh64 m 47 (fun q => absurd q.2 (by decide))).trans ea0
            have s66 := (fh64 m 48 (fun q => absurd q.2 (by decide))).trans ek0
            have s67 := (fh64 m 3 (fun q => absurd q.2 (by decide))).trans esz
            have s68 := (fh64 m 4 (fun q => absurd q.2 (by decide))).trans ec39
            refine gz_s 1 (pc' := 87) (L' := [some (.ref m), some (.int (zi 0))]) (S' := [.ref m]) rfl ?_
            refine gs_gtk rfl (by decide) rfl sh64.1 tm rfl rfl eh64 ?_
            refine gy_ifF rfl (by decide) (by decide) (by omega) (by first | (simp [zc]; done) | (simp only [zc]; omega)) ?_
            refine gz_s 1 (pc' := 94) (L' := [some (.ref m), some (.int (zi 0))]) (S' := [.int (zi 0)]) rfl ?_
            exact gz_end (I := .ireturn) (len := 1) rfl (Or.inl rfl) ⟨sh64, 0, a0, k0, 1, rfl, (by omega), (by omega), s65, (by omega), (by omega), s66, (by omega), (by omega), eh64, (by omega), (by omega), (by omega), (by omega), (by omega)⟩
          · refine gy_ifF rfl (by decide) (by decide) (by omega) hc63 ?_
            refine gz_s 1 (pc' := 75) (L' := [some (.ref m), some (.int (zi 0))]) (S' := [.int (zi 0), .ref m]) rfl ?_
            refine gy_ifF rfl (by decide) (by decide) (by omega) (by first | (simp [zc]; done) | (simp only [zc]; omega)) ?_
            refine gz_s 2 (pc' := 83) (L' := [some (.ref m), some (.int (zi 0))]) (S' := [.int (zi 1), .ref m]) rfl ?_
            refine gs_put rfl (by decide) rfl hS tm rfl rfl rfl rfl (Or.inl rfl) (by decide) (by omega) (by omega) (fun h69 sh69 eh69 fh69 => ?_)
            have s70 := (fh69 m 47 (fun q => absurd q.2 (by decide))).trans ea0
            have s71 := (fh69 m 48 (fun q => absurd q.2 (by decide))).trans ek0
            have s72 := (fh69 m 3 (fun q => absurd q.2 (by decide))).trans esz
            have s73 := (fh69 m 4 (fun q => absurd q.2 (by decide))).trans ec39
            refine gz_s 1 (pc' := 87) (L' := [some (.ref m), some (.int (zi 0))]) (S' := [.ref m]) rfl ?_
            refine gs_gtk rfl (by decide) rfl sh69.1 tm rfl rfl eh69 ?_
            refine gy_ifF rfl (by decide) (by decide) (by omega) (by first | (simp [zc]; done) | (simp only [zc]; omega)) ?_
            refine gz_s 1 (pc' := 94) (L' := [some (.ref m), some (.int (zi 0))]) (S' := [.int (zi 0)]) rfl ?_
            exact gz_end (I := .ireturn) (len := 1) rfl (Or.inl rfl) ⟨sh69, 0, a0, k0, 1, rfl, (by omega), (by omega), s70, (by omega), (by omega), s71, (by omega), (by omega), eh69, (by omega), (by omega), (by omega), (by omega), (by omega)⟩
        · refine gy_icF rfl (by decide) (by decide) (by omega) (by omega) hc62 ?_
          refine gz_s 1 (pc' := 47) (L' := [some (.ref m), none]) (S' := [.ref m]) rfl ?_
          refine gs_gtk rfl (by decide) rfl hS.1 tm rfl rfl ec39 ?_
          refine gz_s 1 (pc' := 51) (L' := [some (.ref m), none]) (S' := [.ref m, .ref c39]) rfl ?_
          refine gs_gtk rfl (by decide) rfl hS.1 tm rfl rfl ea0 ?_
          refine gy_s 2 (pc' := 56) (L' := [some (.ref m), none]) (S' := [.int ((zi a0) + (zi 1)), .ref c39]) (L2 := [some (.ref m), none]) (S2 := [.int (zi (a0 + 1)), .ref c39]) rfl (by simp only [zi_add, zi_sub, zi_mul, zi_neg, zi_and1, zi_and7, zi_and15, zi_and31, zi_and255]) (by simp only [zi_add, zi_sub, zi_mul, zi_neg, zi_and1, zi_and7, zi_and15, zi_and31, zi_and255]) ?_
          have hl74 : 2000 ≤ h.2.2.2.1 c39 ∧ h.2.2.2.1 c39 ≤ 2000 := gJ.rowl (G := gGG) hS.1 tc39 rfl
          refine gs_ald rfl (by decide) hS.1 tc39 rfl rfl rfl (by decide) (fun _ => rfl) (by omega) (by omega) (fun z75 ez75 az75 bz75 => ?_)
          by_cases hc76 : ¬ (z75 : Int) = 0
          · refine gy_ifT (pc' := 64) rfl (by decide) (by decide) (by omega) hc76 ?_
            refine gz_s 4 (pc' := 68) (L' := [some (.ref m), some (.int (zi 0))]) (S' := [.ref m, .ref m]) rfl ?_
            refine gs_gtk rfl (by decide) rfl hS.1 tm rfl rfl eu0 ?_
            by_cases hc77 : ¬ (u0 : Int) = 0
            · refine gy_ifT (pc' := 78) rfl (by decide) (by decide) (by omega) hc77 ?_
              refine gz_s 2 (pc' := 83) (L' := [some (.ref m), some (.int (zi 0))]) (S' := [.int (zi 1), .ref m]) rfl ?_
              refine gs_put rfl (by decide) rfl hS tm rfl rfl rfl rfl (Or.inl rfl) (by decide) (by omega) (by omega) (fun h78 sh78 eh78 fh78 => ?_)
              have s79 := (fh78 m 47 (fun q => absurd q.2 (by decide))).trans ea0
              have s80 := (fh78 m 48 (fun q => absurd q.2 (by decide))).trans ek0
              have s81 := (fh78 m 3 (fun q => absurd q.2 (by decide))).trans esz
              have s82 := (fh78 m 4 (fun q => absurd q.2 (by decide))).trans ec39
              refine gz_s 1 (pc' := 87) (L' := [some (.ref m), some (.int (zi 0))]) (S' := [.ref m]) rfl ?_
              refine gs_gtk rfl (by decide) rfl sh78.1 tm rfl rfl eh78 ?_
              refine gy_ifF rfl (by decide) (by decide) (by omega) (by first | (simp [zc]; done) | (simp only [zc]; omega)) ?_
              refine gz_s 1 (pc' := 94) (L' := [some (.ref m), some (.int (zi 0))]) (S' := [.int (zi 0)]) rfl ?_
              exact gz_end (I := .ireturn) (len := 1) rfl (Or.inl rfl) ⟨sh78, 0, a0, k0, 1, rfl, (by omega), (by omega), s79, (by omega), (by omega), s80, (by omega), (by omega), eh78, (by omega), (by omega), (by omega), (by omega), (by omega)⟩
            · refine gy_ifF rfl (by decide) (by decide) (by omega) hc77 ?_
              refine gz_s 1 (pc' := 75) (L' := [some (.ref m), some (.int (zi 0))]) (S' := [.int (zi 0), .ref m]) rfl ?_
              refine gy_ifF rfl (by decide) (by decide) (by omega) (by first | (simp [zc]; done) | (simp only [zc]; omega)) ?_
              refine gz_s 2 (pc' := 83) (L' := [some (.ref m), some (.int (zi 0))]) (S' := [.int (zi 1), .ref m]) rfl ?_
              refine gs_put rfl (by decide) rfl hS tm rfl rfl rfl rfl (Or.inl rfl) (by decide) (by omega) (by omega) (fun h83 sh83 eh83 fh83 => ?_)
              have s84 := (fh83 m 47 (fun q => absurd q.2 (by decide))).trans ea0
              have s85 := (fh83 m 48 (fun q => absurd q.2 (by decide))).trans ek0
              have s86 := (fh83 m 3 (fun q => absurd q.2 (by decide))).trans esz
              have s87 := (fh83 m 4 (fun q => absurd q.2 (by decide))).trans ec39
              refine gz_s 1 (pc' := 87) (L' := [some (.ref m), some (.int (zi 0))]) (S' := [.ref m]) rfl ?_
              refine gs_gtk rfl (by decide) rfl sh83.1 tm rfl rfl eh83 ?_
              refine gy_ifF rfl (by decide) (by decide) (by omega) (by first | (simp [zc]; done) | (simp only [zc]; omega)) ?_
              refine gz_s 1 (pc' := 94) (L' := [some (.ref m), some (.int (zi 0))]) (S' := [.int (zi 0)]) rfl ?_
              exact gz_end (I := .ireturn) (len := 1) rfl (Or.inl rfl) ⟨sh83, 0, a0, k0, 1, rfl, (by omega), (by omega), s84, (by omega), (by omega), s85, (by omega), (by omega), eh83, (by omega), (by omega), (by omega), (by omega), (by omega)⟩
          · refine gy_ifF rfl (by decide) (by decide) (by omega) hc76 ?_
            refine gz_s 5 (pc' := 68) (L' := [some (.ref m), some (.int (zi 1))]) (S' := [.ref m, .ref m]) rfl ?_
            refine gs_gtk rfl (by decide) rfl hS.1 tm rfl rfl eu0 ?_
            by_cases hc88 : ¬ (u0 : Int) = 0
            · refine gy_ifT (pc' := 78) rfl (by decide) (by decide) (by omega) hc88 ?_
              refine gz_s 2 (pc' := 83) (L' := [some (.ref m), some (.int (zi 1))]) (S' := [.int (zi 1), .ref m]) rfl ?_
              refine gs_put rfl (by decide) rfl hS tm rfl rfl rfl rfl (Or.inl rfl) (by decide) (by omega) (by omega) (fun h89 sh89 eh89 fh89 => ?_)
              have s90 := (fh89 m 47 (fun q => absurd q.2 (by decide))).trans ea0
              have s91 := (fh89 m 48 (fun q => absurd q.2 (by decide))).trans ek0
              have s92 := (fh89 m 3 (fun q => absurd q.2 (by decide))).trans esz
              have s93 := (fh89 m 4 (fun q => absurd q.2 (by decide))).trans ec39
              refine gz_s 1 (pc' := 87) (L' := [some (.ref m), some (.int (zi 1))]) (S' := [.ref m]) rfl ?_
              refine gs_gtk rfl (by decide) rfl sh89.1 tm rfl rfl eh89 ?_
              refine gy_ifF rfl (by decide) (by decide) (by omega) (by first | (simp [zc]; done) | (simp only [zc]; omega)) ?_
              refine gz_s 1 (pc' := 94) (L' := [some (.ref m), some (.int (zi 1))]) (S' := [.int (zi 0)]) rfl ?_
              exact gz_end (I := .ireturn) (len := 1) rfl (Or.inl rfl) ⟨sh89, 0, a0, k0, 1, rfl, (by omega), (by omega), s90, (by omega), (by omega), s91, (by omega), (by omega), eh89, (by omega), (by omega), (by omega), (by omega), (by omega)⟩
            · refine gy_ifF rfl (by decide) (by decide) (by omega) hc88 ?_
              refine gz_s 1 (pc' := 75) (L' := [some (.ref m), some (.int (zi 1))]) (S' := [.int (zi 1), .ref m]) rfl ?_
              refine gy_ifT (pc' := 82) rfl (by decide) (by decide) (by omega) (by first | (simp [zc]; done) | (simp only [zc]; omega)) ?_
              refine gz_s 1 (pc' := 83) (L' := [some (.ref m), some (.int (zi 1))]) (S' := [.int (zi 0), .ref m]) rfl ?_
              refine gs_put rfl (by decide) rfl hS tm rfl rfl rfl rfl (Or.inl rfl) (by decide) (by omega) (by omega) (fun h94 sh94 eh94 fh94 => ?_)
              have s95 := (fh94 m 47 (fun q => absurd q.2 (by decide))).trans ea0
              have s96 := (fh94 m 48 (fun q => absurd q.2 (by decide))).trans ek0
              have s97 := (fh94 m 3 (fun q => absurd q.2 (by decide))).trans esz
              have s98 := (fh94 m 4 (fun q => absurd q.2 (by decide))).trans ec39
              refine gz_s 1 (pc' := 87) (L' := [some (.ref m), some (.int (zi 1))]) (S' := [.ref m]) rfl ?_
              refine gs_gtk rfl (by decide) rfl sh94.1 tm rfl rfl eh94 ?_
              refine gy_ifT (pc' := 95) rfl (by decide) (by decide) (by omega) (by first | (simp [zc]; done) | (simp only [zc]; omega)) ?_
              refine gz_s 1 (pc' := 96) (L' := [some (.ref m), some (.int (zi 1))]) (S' := [.ref m]) rfl ?_
              refine gs_gtk rfl (by decide) rfl sh94.1 tm rfl rfl s98 ?_
              refine gz_s 1 (pc' := 100) (L' := [some (.ref m), some (.int (zi 1))]) (S' := [.ref m, .ref c39]) rfl ?_
              refine gs_gtk rfl (by decide) rfl sh94.1 tm rfl rfl s95 ?_
              have hl99 : 2000 ≤ h94.2.2.2.1 c39 ∧ h94.2.2.2.1 c39 ≤ 2000 := gJ.rowl (G := gGG) sh94.1 tc39 rfl
              refine gs_ald rfl (by decide) sh94.1 tc39 rfl rfl rfl (by decide) (fun _ => rfl) (by omega) (by omega) (fun z100 ez100 az100 bz100 => ?_)
              refine gz_s 2 (pc' := 107) (L' := [some (.ref m), some (.int (zi 1))]) (S' := [.ref m, .int (zi 7), .int (zi z100)]) rfl ?_
              refine gs_gtk rfl (by decide) rfl sh94.1 tm rfl rfl s96 ?_
              refine gy_s 1 (pc' := 111) (L' := [some (.ref m), some (.int (zi 1))]) (S' := [.int ((zi 7) - (zi k0)), .int (zi z100)]) (L2 := [some (.ref m), some (.int (zi 1))]) (S2 := [.int (zi (7 - k0)), .int (zi z100)]) rfl (by simp only [zi_add, zi_sub, zi_mul, zi_neg, zi_and1, zi_and7, zi_and15, zi_and31, zi_and255]) (by simp only [zi_add, zi_sub, zi_mul, zi_neg, zi_and1, zi_and7, zi_and15, zi_and31, zi_and255]) ?_
              refine gy_shv rfl (by decide) (by omega) (by omega) (fun z101 az101 bz101 => ?_)
              refine gy_s 5 (pc' := 117) (L' := [some (.ref m), some (.int ((zi z101) &&& (zi 1)))]) (S' := [.ref m, .ref m]) (L2 := [some (.ref m), some (.int (zi (z101 % 2)))]) (S2 := [.ref m, .ref m]) rfl (by simp only [zi_add, zi_sub, zi_mul, zi_neg, zi_and1, zi_and7, zi_and15, zi_and31, zi_and255]) (by simp only [zi_add, zi_sub, zi_mul, zi_neg, zi_and1, zi_and7, zi_and15, zi_and31, zi_and255]) ?_
              refine gs_gtk rfl (by decide) rfl sh94.1 tm rfl rfl s96 ?_
              refine gy_s 2 (pc' := 122) (L' := [some (.ref m), some (.int (zi (z101 % 2)))]) (S' := [.int ((zi k0) + (zi 1)), .ref m]) (L2 := [some (.ref m), some (.int (zi (z101 % 2)))]) (S2 := [.int (zi (k0 + 1)), .ref m]) rfl (by simp only [zi_add, zi_sub, zi_mul, zi_neg, zi_and1, zi_and7, zi_and15, zi_and31, zi_and255]) (by simp only [zi_add, zi_sub, zi_mul, zi_neg, zi_and1, zi_and7, zi_and15, zi_and31, zi_and255]) ?_
              refine gs_put rfl (by decide) rfl sh94 tm rfl rfl rfl rfl (Or.inl rfl) (by decide) (by omega) (by omega) (fun h102 sh102 eh102 fh102 => ?_)
              have s103 := (fh102 m 47 (fun q => absurd q.2 (by decide))).trans s95
              have s104 := (fh102 m 3 (fun q => absurd q.2 (by decide))).trans s97
              have s105 := (fh102 m 4 (fun q => absurd q.2 (by decide))).trans s98
              have s106 := (fh102 m 46 (fun q => absurd q.2 (by decide))).trans eh94
              refine gz_s 1 (pc' := 126) (L' := [some (.ref m), some (.int (zi (z101 % 2)))]) (S' := [.ref m]) rfl ?_
              refine gs_gtk rfl (by decide) rfl sh102.1 tm rfl rfl eh102 ?_
              refine gz_s 1 (pc' := 131) (L' := [some (.ref m), some (.int (zi (z101 % 2)))]) (S' := [.int (zi 8), .int (zi (k0 + 1))]) rfl ?_
              refine gy_icT (pc' := 147) rfl (by decide) (by decide) (by omega) (by omega) (by first | (simp [zc]; done) | (simp only [zc]; omega)) ?_
              refine gz_s 1 (pc' := 148) (L' := [some (.ref m), some (.int (zi (z101 % 2)))]) (S' := [.int (zi (z101 % 2))]) rfl ?_
              exact gz_end (I := .ireturn) (len := 1) rfl (Or.inl rfl) ⟨sh102, z101 % 2, a0, k0 + 1, 0, rfl, (by omega), (by omega), s103, (by omega), (by omega), eh102, (by omega), (by omega), s106, (by omega), (by omega), (by omega), (by omega), (by omega)⟩
set_option maxRecDepth 20000 in
set_option maxHeartbeats 4000000 in
theorem mm_bits (d : Nat) {ty : Nat → Nat} {h : gH} (hJ : gJ rT 1027 ty h) (m : Nat) (tm : ty m = 1) (n : Int) (rn : 0 ≤ n ∧ n ≤ 16) (a0 : Int) (ea0 : h.2.2.2.2 m 47 = .int (zi a0)) (ra0 : 0 ≤ a0 ∧ a0 ≤ 2001) (k0 : Int) (ek0 : h.2.2.2.2 m 48 = .int (zi k0)) (rk0 : 0 ≤ k0 ∧ k0 ≤ 7) (sz : Int) (esz : h.2.2.2.2 m 3 = .int (zi sz)) (rsz : 0 ≤ sz ∧ sz ≤ 2000) (u0 : Int) (eu0 : h.2.2.2.2 m 46 = .int (zi u0)) (ru0 : 0 ≤ u0 ∧ u0 ≤ 1) (p0 : k0 = 0 ∨ a0 < sz) : gz gPP gGG gcn (d + 2) gt158 0 (gent [.ref m, .int (zi n)] 4) [] h (fun q _ => gSs rT 1027 ty [1046, 1047, 1048] h q.2.2 ∧ ∃ z a1 k1 u1 : Int, gfin gt158 q.1 q.2.1 = some (some (.int (zi z))) ∧ 0 ≤ z ∧ z ≤ 65535 ∧ q.2.2.2.2.2.2 m 47 = .int (zi a1) ∧ 0 ≤ a1 ∧ a1 ≤ 2001 ∧ q.2.2.2.2.2.2 m 48 = .int (zi k1) ∧ 0 ≤ k1 ∧ k1 ≤ 7 ∧ q.2.2.2.2.2.2 m 46 = .int (zi u1) ∧ 0 ≤ u1 ∧ u1 ≤ 1 ∧ (k1 = 0 ∨ a1 < sz) ∧ (a0 ≤ a1) ∧ (u1 = 0 → u0 = 0)) := by
  have hS : gSs rT 1027 ty [1046, 1047, 1048] h h := gSs.rf hJ
  refine gz_s 4 (pc' := 4) (L' := [some (.ref m), some (.int (zi n)), some (.int (zi 0)), some (.int (zi 0))]) (S' := []) rfl ?_
  have lp1 : ∀ (fu : Nat) (h2 : gH) (v : Int) (k : Int) (av : Int) (kv : Int) (uv : Int), (17 - k).toNat < fu → gSs rT 1027 ty [1046, 1047, 1048] h h2 → (0 ≤ v ∧ v ≤ 65535) → (0 ≤ k ∧ k ≤ 16) → (0 ≤ av ∧ av ≤ 2001) → (0 ≤ kv ∧ kv ≤ 7) → (0 ≤ uv ∧ uv ≤ 1) → (kv = 0 ∨ av < sz) → (a0 ≤ av) → (uv = 0 → u0 = 0) → (k ≤ n) → (v < 2 ^ k.toNat) → h2.2.2.2.2 m 3 = .int (zi sz) → h2.2.2.2.2 m 47 = .int (zi av) → h2.2.2.2.2 m 48 = .int (zi kv) → h2.2.2.2.2 m 46 = .int (zi uv) → gz gPP gGG gcn (d + 2) gt158 4 [some (.ref m), some (.int (zi n)), some (.int (zi v)), some (.int (zi k))] [] h2 (fun q _ => gSs rT 1027 ty [1046, 1047, 1048] h q.2.2 ∧ ∃ z a1 k1 u1 : Int, gfin gt158 q.1 q.2.1 = some (some (.int (zi z))) ∧ 0 ≤ z ∧ z ≤ 65535 ∧ q.2.2.2.2.2.2 m 47 = .int (zi a1) ∧ 0 ≤ a1 ∧ a1 ≤ 2001 ∧ q.2.2.2.2.2.2 m 48 = .int (zi k1) ∧ 0 ≤ k1 ∧ k1 ≤ 7 ∧ q.2.2.2.2.2.2 m 46 = .int (zi u1) ∧ 0 ≤ u1 ∧ u1 ≤ 1 ∧ (k1 = 0 ∨ a1 < sz) ∧ (a0 ≤ a1) ∧ (u1 = 0 → u0 = 0)) := by
    intro fu
    induction fu with
    | zero => intro h2 v k av kv uv hm; exact absurd hm (Nat.not_lt_zero _)
    | succ fu ihlp1 =>
      intro h2 v k av kv uv lp1m sh2 lp1f0 lp1f1 lp1f2 lp1f3 lp1f4 lp1f5 lp1f6 lp1f7 lp1f8 lp1f9 lp1k0 lp1k1 lp1k2 lp1k3
      have hp1 := zp_s (k := k) (by omega)
      have hp2 := zp_le (k := k) (by omega) (by omega)
      have hp3 : k < 16 → (2 : Int) ^ (k + 1).toNat ≤ 65536 := fun h9 => (zp_le (k := k + 1) (by omega) (by omega)).2
      refine gz_s 2 (pc' := 6) (L' := [some (.ref m), some (.int (zi n)), some (.int (zi v)), some (.int (zi k))]) (S' := [.int (zi n), .int (zi k)]) rfl ?_
      by_cases hc3 : (n : Int) ≤ k
      · refine gy_icT (pc' := 31) rfl (by decide) (by decide) (by omega) (by omega) hc3 ?_
        refine gz_s 1 (pc' := 32) (L' := [some (.ref m), some (.int (zi n)), some (.int (zi v)), some (.int (zi k))]) (S' := [.int (zi v)]) rfl ?_
        exact gz_end (I := .ireturn) (len := 1) rfl (Or.inl rfl) ⟨sh2, v, av, kv, uv, rfl, (by omega), (by omega), lp1k1, (by omega), (by omega), lp1k2, (by omega), (by omega), lp1k3, (by omega), (by omega), (by omega), (by omega), (by omega)⟩
      · refine gy_icF rfl (by decide) (by decide) (by omega) (by omega) hc3 ?_
        refine gz_s 1 (pc' := 10) (L' := [some (.ref m), some (.int (zi n)), some (.int (zi v)), some (.int (zi k))]) (S' := [.ref m]) rfl ?_
        refine gs_gtk rfl (by decide) rfl sh2.1 tm rfl rfl lp1k3 ?_
        by_cases hc4 : ¬ (uv : Int) = 0
        · refine gy_ifT (pc' := 31) rfl (by decide) (by decide) (by omega) hc4 ?_
          refine gz_s 1 (pc' := 32) (L' := [some (.ref m), some (.int (zi n)), some (.int (zi v)), some (.int (zi k))]) (S' := [.int (zi v)]) rfl ?_
          exact gz_end (I := .ireturn) (len := 1) rfl (Or.inl rfl) ⟨sh2, v, av, kv, uv, rfl, (by omega), (by omega), lp1k1, (by omega), (by omega), lp1k2, (by omega), (by omega), lp1k3, (by omega), (by omega), (by omega), (by omega), (by omega)⟩
        · refine gy_ifF rfl (by decide) (by decide) (by omega) hc4 ?_
          refine gy_s 4 (pc' := 20) (L' := [some (.ref m), some (.int (zi n)), some (.int (zi v)), some (.int (zi k))]) (S' := [.ref m, .int ((zi 2) * (zi v))]) (L2 := [some (.ref m), some (.int (zi n)), some (.int (zi v)), some (.int (zi k))]) (S2 := [.ref m, .int (zi (2 * v))]) rfl (by simp only [zi_add, zi_sub, zi_mul, zi_neg, zi_and1, zi_and7, zi_and15, zi_and31, zi_and255]) (by simp only [zi_add, zi_sub, zi_mul, zi_neg, zi_and1, zi_and7, zi_and15, zi_and31, zi_and255]) ?_
          refine gz_call rfl (by decide) rfl (by decide) (by decide) (gcal_of rfl rfl rfl (Nat.le_of_ble_eq_true rfl) (gJ.recv (G := gGG) sh2.1 tm rfl rfl)) (mm_bit _ sh2.1 m tm av lp1k1 (by omega) kv lp1k2 (by omega) sz lp1k0 (by omega) uv lp1k3 (by omega) (by omega)) (fun q5 _ wq5 => ?_)
          obtain ⟨pq5, oq5, hq5⟩ := q5
          obtain ⟨xq5, zq5, fq5_0, fq5_1, fq5_2, gq5, aq5, bq5, efq5_0, afq5_0, bfq5_0, efq5_1, afq5_1, bfq5_1, efq5_2, afq5_2, bfq5_2, uq5_0, uq5_1, uq5_2⟩ := wq5
          refine ⟨_, gq5, ?_⟩
          show gz gPP gGG gcn _ _ 23 [some (.ref m), some (.int (zi n)), some (.int (zi v)), some (.int (zi k))] [.int (zi zq5), .int (zi (2 * v))] hq5 _
          have sq5 := gSs.tr sh2 xq5 (by decide)
          have s6 := (xq5.2.2.2.2.2 m 3 (by rw [tm]; decide)).trans lp1k0
          refine gy_s 4 (pc' := 4) (L' := [some (.ref m), some (.int (zi n)), some (.int ((zi (2 * v)) + (zi zq5))), some (.int ((zi k) + zi 1))]) (S' := []) (L2 := [some (.ref m), some (.int (zi n)), some (.int (zi ((2 * v) + zq5))), some (.int (zi (k + 1)))]) (S2 := []) rfl (by simp only [zi_add, zi_sub, zi_mul, zi_neg, zi_and1, zi_and7, zi_and15, zi_and31, zi_and255]) (by simp only [zi_add, zi_sub, zi_mul, zi_neg, zi_and1, zi_and7, zi_and15, zi_and31, zi_and255]) ?_
          exact gz_wk (ihlp1 hq5 ((2 * v) + zq5) (k + 1) fq5_0 fq5_1 fq5_2 (by omega) sq5 (by omega) (by omega) (by omega) (by omega) (by omega) (by omega) (by omega) (by omega) (by omega) (by omega) s6 efq5_0 efq5_1 efq5_2) (gLw.s (gLw.s (gLw.s (gLw.s gLw.z))))
  have hp0 : (2 : Int) ^ (0 : Int).toNat = 1 := rfl
  exact gz_wk (lp1 _ h 0 0 a0 k0 u0 (Nat.lt_succ_self _) hS (by omega) (by omega) (by omega) (by omega) (by omega) (by omega) (by omega) (by omega) (by omega) (by omega) esz ea0 ek0 eu0) (gLw.s (gLw.s (gLw.s (gLw.s gLw.z))))
set_option maxRecDepth 20000 in
set_option maxHeartbeats 4000000 in
theorem mm_number (d : Nat) {ty : Nat → Nat} {h : gH} (hJ : gJ rT 1027 ty h) (m : Nat) (tm : ty m = 1) (n : Int) (rn : 0 ≤ n ∧ n ≤ 16) (a0 : Int) (ea0 : h.2.2.2.2 m 47 = .int (zi a0)) (ra0 : 0 ≤ a0 ∧ a0 ≤ 2001) (k0 : Int) (ek0 : h.2.2.2.2 m 48 = .int (zi k0)) (rk0 : 0 ≤ k0 ∧ k0 ≤ 7) (sz : Int) (esz : h.2.2.2.2 m 3 = .int (zi sz)) (rsz : 0 ≤ sz ∧ sz ≤ 2000) (u0 : Int) (eu0 : h.2.2.2.2 m 46 = .int (zi u0)) (ru0 : 0 ≤ u0 ∧ u0 ≤ 1) (p0 : k0 = 0 ∨ a0 < sz) : gz gPP gGG gcn (d + 3) gt157 0 (gent [.ref m, .int (zi n)] 3) [] h (fun q _ => gSs rT 1027 ty [1046, 1047, 1048] h q.2.2 ∧ ∃ z a1 k1 u1 : Int, gfin gt157 q.1 q.2.1 = some (some (.int (zi z))) ∧ (-2147483648) ≤ z ∧ z ≤ 2147483647 ∧ q.2.2.2.2.2.2 m 47 = .int (zi a1) ∧ 0 ≤ a1 ∧ a1 ≤ 2001 ∧ q.2.2.2.2.2.2 m 48 = .int (zi k1) ∧ 0 ≤ k1 ∧ k1 ≤ 7 ∧ q.2.2.2.2.2.2 m 46 = .int (zi u1) ∧ 0 ≤ u1 ∧ u1 ≤ 1 ∧ (k1 = 0 ∨ a1 < sz) ∧ (a0 ≤ a1) ∧ (u1 = 0 → u0 = 0)) := by
  have hS : gSs rT 1027 ty [1046, 1047, 1048] h h := gSs.rf hJ
  refine gz_s 2 (pc' := 2) (L' := [some (.ref m), some (.int (zi n)), none]) (S' := [.int (zi n), .ref m]) rfl ?_
  refine gz_call rfl (by decide) rfl (by decide) (by decide) (gcal_of rfl rfl rfl (Nat.le_of_ble_eq_true rfl) (gJ.recv (G := gGG) hS.1 tm rfl rfl)) (mm_bits _ hS.1 m tm n (by omega) a0 ea0 (by omega) k0 ek0 (by omega) sz esz (by omega) u0 eu0 (by omega) (by omega)) (fun q1 _ wq1 => ?_)
  obtain ⟨pq1, oq1, hq1⟩ := q1
  obtain ⟨xq1, zq1, fq1_0, fq1_1, fq1_2, gq1, aq1, bq1, efq1_0, afq1_0, bfq1_0, efq1_1, afq1_1, bfq1_1, efq1_2, afq1_2, bfq1_2, uq1_0, uq1_1, uq1_2⟩ := wq1
  refine ⟨_, gq1, ?_⟩
  show gz gPP gGG gcn _ _ 5 [some (.ref m), some (.int (zi n)), none] [.int (zi zq1)] hq1 _
  have sq1 := gSs.tr hS xq1 (by decide)
  have s2 := (xq1.2.2.2.2.2 m 3 (by rw [tm]; decide)).trans esz
  refine gz_s 2 (pc' := 7) (L' := [some (.ref m), some (.int (zi n)), some (.int (zi zq1))]) (S' := [.int (zi n)]) rfl ?_
  by_cases hc3 : (n : Int) ≤ 0
  · refine gy_ifT (pc' := 29) rfl (by decide) (by decide) (by omega) hc3 ?_
    refine gz_s 1 (pc' := 30) (L' := [some (.ref m), some (.int (zi n)), some (.int (zi zq1))]) (S' := [.int (zi zq1)]) rfl ?_
    exact gz_end (I := .ireturn) (len := 1) rfl (Or.inl rfl) ⟨sq1, zq1, fq1_0, fq1_1, fq1_2, rfl, (by omega), (by omega), efq1_0, (by omega), (by omega), efq1_1, (by omega), (by omega), efq1_2, (by omega), (by omega), (by omega), (by omega), (by omega)⟩
  · refine gy_ifF rfl (by decide) (by decide) (by omega) hc3 ?_
    refine gy_s 5 (pc' := 15) (L' := [some (.ref m), some (.int (zi n)), some (.int (zi zq1))]) (S' := [.int ((zi n) - (zi 1)), .int (zi 1), .int (zi zq1)]) (L2 := [some (.ref m), some (.int (zi n)), some (.int (zi zq1))]) (S2 := [.int (zi (n - 1)), .int (zi 1), .int (zi zq1)]) rfl (by simp only [zi_add, zi_sub, zi_mul, zi_neg, zi_and1, zi_and7, zi_and15, zi_and31, zi_and255]) (by simp only [zi_add, zi_sub, zi_mul, zi_neg, zi_and1, zi_and7, zi_and15, zi_and31, zi_and255]) ?_
    refine gy_sh1 rfl (by decide) (by omega) (fun z4 az4 bz4 cz4 => ?_)
    by_cases hc5 : (z4 : Int) ≤ zq1
    · refine gy_icT (pc' := 29) rfl (by decide) (by decide) (by omega) (by omega) hc5 ?_
      refine gz_s 1 (pc' := 30) (L' := [some (.ref m), some (.int (zi n)), some (.int (zi zq1))]) (S' := [.int (zi zq1)]) rfl ?_
      exact gz_end (I := .ireturn) (len := 1) rfl (Or.inl rfl) ⟨sq1, zq1, fq1_0, fq1_1, fq1_2, rfl, (by omega), (by omega), efq1_0, (by omega), (by omega), efq1_1, (by omega), (by omega), efq1_2, (by omega), (by omega), (by omega), (by omega), (by omega)⟩
    · refine gy_icF rfl (by decide) (by decide) (by omega) (by omega) hc5 ?_
      refine gz_s 3 (pc' := 22) (L' := [some (.ref m), some (.int (zi n)), some (.int (zi zq1))]) (S' := [.int (zi n), .int (zi 1), .int (zi zq1)]) rfl ?_
      refine gy_sh1 rfl (by decide) (by omega) (fun z6 az6 bz6 cz6 => ?_)
      refine gy_s 4 (pc' := 30) (L' := [some (.ref m), some (.int (zi n)), some (.int (zi zq1))]) (S' := [.int (((zi zq1) - (zi z6)) + (zi 1))]) (L2 := [some (.ref m), some (.int (zi n)), some (.int (zi zq1))]) (S2 := [.int (zi ((zq1 - z6) + 1))]) rfl (by simp only [zi_add, zi_sub, zi_mul, zi_neg, zi_and1, zi_and7, zi_and15, zi_and31, zi_and255]) (by simp only [zi_add, zi_sub, zi_mul, zi_neg, zi_and1, zi_and7, zi_and15, zi_and31, zi_and255]) ?_
      refine gy_any (fun z7 ez7 az7 bz7 => ?_)
      exact gz_end (I := .ireturn) (len := 1) rfl (Or.inl rfl) ⟨sq1, z7, fq1_0, fq1_1, fq1_2, rfl, (by omega), (by omega), efq1_0, (by omega), (by omega), efq1_1, (by omega), (by omega), efq1_2, (by omega), (by omega), (by omega), (by omega), (by omega)⟩
set_option maxRecDepth 20000 in
set_option maxHeartbeats 4000000 in
theorem mm_symbol (d : Nat) {ty : Nat → Nat} {h : gH} (hJ : gJ rT 1027 ty h) (m : Nat) (tm : ty m = 1) (st : Int) (rst : 0 ≤ st ∧ st ≤ 7) (a0 : Int) (ea0 : h.2.2.2.2 m 47 = .int (zi a0)) (ra0 : 0 ≤ a0 ∧ a0 ≤ 2001) (k0 : Int) (ek0 : h.2.2.2.2 m 48 = .int (zi k0)) (rk0 : 0 ≤ k0 ∧ k0 ≤ 7) (sz : Int) (esz : h.2.2.2.2 m 3 = .int (zi sz)) (rsz : 0 ≤ sz ∧ sz ≤ 2000) (u0 : Int) (eu0 : h.2.2.2.2 m 46 = .int (zi u0)) (ru0 : 0 ≤ u0 ∧ u0 ≤ 1) (p0 : k0 = 0 ∨ a0 < sz) : gz gPP gGG gcn (d + 2) gt155 0 (gent [.ref m, .int (zi st)] 6) [] h (fun q _ => gSs rT 1027 ty [1046, 1047, 1048] h q.2.2 ∧ ∃ z a1 k1 u1 : Int, gfin gt155 q.1 q.2.1 = some (some (.int (zi z))) ∧ 0 ≤ z ∧ z ≤ 255 ∧ q.2.2.2.2.2.2 m 47 = .int (zi a1) ∧ 0 ≤ a1 ∧ a1 ≤ 2001 ∧ q.2.2.2.2.2.2 m 48 = .int (zi k1) ∧ 0 ≤ k1 ∧ k1 ≤ 7 ∧ q.2.2.2.2.2.2 m 46 = .int (zi u1) ∧ 0 ≤ u1 ∧ u1 ≤ 1 ∧ (k1 = 0 ∨ a1 < sz) ∧ (a0 ≤ a1) ∧ (u1 = 0 → u0 = 0)) := by
  have hS : gSs rT 1027 ty [1046, 1047, 1048] h h := gSs.rf hJ
  refine gy_s 10 (pc' := 14) (L' := [some (.ref m), some (.int (zi st)), some (.int (zi 0)), some (.int ((zi 257) * (zi st))), some (.int (zi 0)), some (.int (zi 1))]) (S' := []) (L2 := [some (.ref m), some (.int (zi st)), some (.int (zi 0)), some (.int (zi (257 * st))), some (.int (zi 0)), some (.int (zi 1))]) (S2 := []) rfl (by simp only [zi_add, zi_sub, zi_mul, zi_neg, zi_and1, zi_and7, zi_and15, zi_and31, zi_and255]) (by simp only [zi_add, zi_sub, zi_mul, zi_neg, zi_and1, zi_and7, zi_and15, zi_and31, zi_and255]) ?_
  have lp1 : ∀ (fu : Nat) (h2 : gH) (v : Int) (k : Int) (n : Int) (av : Int) (kv : Int) (uv : Int), (18 - n).toNat < fu → gSs rT 1027 ty [1046, 1047, 1048] h h2 → ((-2147483648) ≤ v ∧ v ≤ 2147483647) → (0 ≤ k ∧ k ≤ 256) → (1 ≤ n ∧ n ≤ 17) → (0 ≤ av ∧ av ≤ 2001) → (0 ≤ kv ∧ kv ≤ 7) → (0 ≤ uv ∧ uv ≤ 1) → (kv = 0 ∨ av < sz) → (a0 ≤ av) → (uv = 0 → u0 = 0) → h2.2.2.2.2 m 3 = .int (zi sz) → h2.2.2.2.2 m 47 = .int (zi av) → h2.2.2.2.2 m 48 = .int (zi kv) → h2.2.2.2.2 m 46 = .int (zi uv) → gz gPP gGG gcn (d + 2) gt155 14 [some (.ref m), some (.int (zi st)), some (.int (zi v)), some (.int (zi (257 * st))), some (.int (zi k)), some (.int (zi n))] [] h2 (fun q _ => gSs rT 1027 ty [1046, 1047, 1048] h q.2.2 ∧ ∃ z a1 k1 u1 : Int, gfin gt155 q.1 q.2.1 = some (some (.int (zi z))) ∧ 0 ≤ z ∧ z ≤ 255 ∧ q.2.2.2.2.2.2 m 47 = .int (zi a1) ∧ 0 ≤ a1 ∧ a1 ≤ 2001 ∧ q.2.2.2.2.2.2 m 48 = .int (zi k1) ∧ 0 ≤ k1 ∧ k1 ≤ 7 ∧ q.2.2.2.2.2.2 m 46 = .int (zi u1) ∧ 0 ≤ u1 ∧ u1 ≤ 1 ∧ (k1 = 0 ∨ a1 < sz) ∧ (a0 ≤ a1) ∧ (u1 = 0 → u0 = 0)) := by
    intro fu
    induction fu with
    | zero => intro h2 v k n av kv uv hm; exact absurd hm (Nat.not_lt_zero _)
    | succ fu ihlp1 =>
      intro h2 v k n av kv uv lp1m sh2 lp1f0 lp1f1 lp1f2 lp1f3 lp1f4 lp1f5 lp1f6 lp1f7 lp1f8 lp1k0 lp1k1 lp1k2 lp1k3
      refine gz_s 2 (pc' := 18) (L' := [some (.ref m), some (.int (zi st)), some (.int (zi v)), some (.int (zi (257 * st))), some (.int (zi k)), some (.int (zi n))]) (S' := [.int (zi 16), .int (zi n)]) rfl ?_
      by_cases hc3 : (16 : Int) < n
      · refine gy_icT (pc' := 99) rfl (by decide) (by decide) (by omega) (by omega) hc3 ?_
        refine gz_s 2 (pc' := 101) (L' := [some (.ref m), some (.int (zi st)), some (.int (zi v)), some (.int (zi (257 * st))), some (.int (zi k)), some (.int (zi n))]) (S' := [.int (zi 1), .ref m]) rfl ?_
        refine gs_put rfl (by decide) rfl sh2 tm rfl rfl rfl rfl (Or.inl rfl) (by decide) (by omega) (by omega) (fun h4 sh4 eh4 fh4 => ?_)
        have s5 := (fh4 m 3 (fun q => absurd q.2 (by decide))).trans lp1k0
        have s6 := (fh4 m 47 (fun q => absurd q.2 (by decide))).trans lp1k1
        have s7 := (fh4 m 48 (fun q => absurd q.2 (by decide))).trans lp1k2
        refine gz_s 1 (pc' := 105) (L' := [some (.ref m), some (.int (zi st)), some (.int (zi v)), some (.int (zi (257 * st))), some (.int (zi k)), some (.int (zi n))]) (S' := [.int (zi 0)]) rfl ?_
        exact gz_end (I := .ireturn) (len := 1) rfl (Or.inl rfl) ⟨sh4, 0, av, kv, 1, rfl, (by omega), (by omega), s6, (by omega), (by omega), s7, (by omega), (by omega), eh4, (by omega), (by omega), (by omega), (by omega), (by omega)⟩
      · refine gy_icF rfl (by decide) (by decide) (by omega) (by omega) hc3 ?_
        refine gy_s 4 (pc' := 25) (L' := [some (.ref m), some (.int (zi st)), some (.int (zi v)), some (.int (zi (257 * st))), some (.int (zi k)), some (.int (zi n))]) (S' := [.ref m, .int ((zi 2) * (zi v))]) (L2 := [some (.ref m), some (.int (zi st)), some (.int (zi v)), some (.int (zi (257 * st))), some (.int (zi k)), some (.int (zi n))]) (S2 := [.ref m, .int (zi (2 * v))]) rfl (by simp only [zi_add, zi_sub, zi_mul, zi_neg, zi_and1, zi_and7, zi_and15, zi_and31, zi_and255]) (by simp only [zi_add, zi_sub, zi_mul, zi_neg, zi_and1, zi_and7, zi_and15, zi_and31, zi_and255]) ?_
        refine gz_call rfl (by decide) rfl (by decide) (by decide) (gcal_of rfl rfl rfl (Nat.le_of_ble_eq_true rfl) (gJ.recv (G := gGG) sh2.1 tm rfl rfl)) (mm_bit _ sh2.1 m tm av lp1k1 (by omega) kv lp1k2 (by omega) sz lp1k0 (by omega) uv lp1k3 (by omega) (by omega)) (fun q8 _ wq8 => ?_)
        obtain ⟨pq8, oq8, hq8⟩ := q8
        obtain ⟨xq8, zq8, fq8_0, fq8_1, fq8_2, gq8, aq8, bq8, efq8_0, afq8_0, bfq8_0, efq8_1, afq8_1, bfq8_1, efq8_2, afq8_2, bfq8_2, uq8_0, uq8_1, uq8_2⟩ := wq8
        refine ⟨_, gq8, ?_⟩
        show gz gPP gGG gcn _ _ 28 [some (.ref m), some (.int (zi st)), some (.int (zi v)), some (.int (zi (257 * st))), some (.int (zi k)), some (.int (zi n))] [.int (zi zq8), .int (zi (2 * v))] hq8 _
        have sq8 := gSs.tr sh2 xq8 (by decide)
        have s9 := (xq8.2.2.2.2.2 m 3 (by rw [tm]; decide)).trans lp1k0
        refine gy_s 1 (pc' := 29) (L' := [some (.ref m), some (.int (zi st)), some (.int (zi v)), some (.int (zi (257 * st))), some (.int (zi k)), some (.int (zi n))]) (S' := [.int ((zi (2 * v)) + (zi zq8))]) (L2 := [some (.ref m), some (.int (zi st)), some (.int (zi v)), some (.int (zi (257 * st))), some (.int (zi k)), some (.int (zi n))]) (S2 := [.int (zi ((2 * v) + zq8))]) rfl (by simp only [zi_add, zi_sub, zi_mul, zi_neg, zi_and1, zi_and7, zi_and15, zi_and31, zi_and255]) (by simp only [zi_add, zi_sub, zi_mul, zi_neg, zi_and1, zi_and7, zi_and15, zi_and31, zi_and255]) ?_
        refine gy_any (fun z10 ez10 az10 bz10 => ?_)
        refine gz_s 2 (pc' := 31) (L' := [some (.ref m), some (.int (zi st)), some (.int (zi z10)), some (.int (zi (257 * st))), some (.int (zi k)), some (.int (zi n))]) (S' := [.ref m]) rfl ?_
        refine gs_gtk rfl (by decide) rfl sq8.1 tm rfl rfl efq8_2 ?_
        by_cases hc11 : (fq8_2 : Int) = 0
        · refine gy_ifT (pc' := 39) rfl (by decide) (by decide) (by omega) hc11 ?_
          have lp12 : ∀ (fu : Nat) (h13 : gH) (j : Int) (av : Int) (kv : Int) (uv : Int), (300 - j).toNat < fu → gSs rT 1027 ty [1046, 1047, 1048] h h13 → (0 ≤ j ∧ j ≤ 256) → (0 ≤ av ∧ av ≤ 2001) → (0 ≤ kv ∧ kv ≤ 7) → (0 ≤ uv ∧ uv ≤ 1) → (kv = 0 ∨ av < sz) → (a0 ≤ av) → (uv = 0 → u0 = 0) → h13.2.2.2.2 m 3 = .int (zi sz) → h13.2.2.2.2 m 47 = .int (zi av) → h13.2.2.2.2 m 48 = .int (zi kv) → h13.2.2.2.2 m 46 = .int (zi uv) → gz gPP gGG gcn (d + 2) gt155 39 [some (.ref m), some (.int (zi st)), some (.int (zi z10)), some (.int (zi (257 * st))), some (.int (zi j)), some (.int (zi n))] [] h13 (fun q _ => gSs rT 1027 ty [1046, 1047, 1048] h q.2.2 ∧ ∃ z a1 k1 u1 : Int, gfin gt155 q.1 q.2.1 = some (some (.int (zi z))) ∧ 0 ≤ z ∧ z ≤ 255 ∧ q.2.2.2.2.2.2 m 47 = .int (zi a1) ∧ 0 ≤ a1 ∧ a1 ≤ 2001 ∧ q.2.2.2.2.2.2 m 48 = .int (zi k1) ∧ 0 ≤ k1 ∧ k1 ≤ 7 ∧ q.2.2.2.2.2.2 m 46 = .int (zi u1) ∧ 0 ≤ u1 ∧ u1 ≤ 1 ∧ (k1 = 0 ∨ a1 < sz) ∧ (a0 ≤ a1) ∧ (u1 = 0 → u0 = 0)) := by
            intro fu
            induction fu with
            | zero => intro h13 j av kv uv hm; exact absurd hm (Nat.not_lt_zero _)
            | succ fu ihlp12 =>
              intro h13 j av kv uv lp12m sh13 lp12f0 lp12f1 lp12f2 lp12f3 lp12f4 lp12f5 lp12f6 lp12k0 lp12k1 lp12k2 lp12k3
              refine gz_s 2 (pc' := 42) (L' := [some (.ref m), some (.int (zi st)), some (.int (zi z10)), some (.int (zi (257 * st))), some (.int (zi j)), some (.int (zi n))]) (S' := [.ref m, .int (zi j)]) rfl ?_
              refine gs_gtr rfl (by decide) rfl sh13.1 tm rfl rfl rfl (fun c14 ec14 tc14 => ?_)
              refine gz_s 1 (pc' := 46) (L' := [some (.ref m), some (.int (zi st)), some (.int (zi z10)), some (.int (zi (257 * st))), some (.int (zi j)), some (.int (zi n))]) (S' := [.int (zi st), .ref c14, .int (zi j)]) rfl ?_
              have hl15 : 8 ≤ h13.2.2.2.1 c14 ∧ h13.2.2.2.1 c14 ≤ 8 := gJ.rowl (G := gGG) sh13.1 tc14 rfl
              refine gs_ald rfl (by decide) sh13.1 tc14 rfl rfl rfl (by decide) (fun _ => rfl) (by omega) (by omega) (fun z16 ez16 az16 bz16 => ?_)
              by_cases hc17 : (z16 : Int) ≤ j
              · refine gy_icT (pc' := 93) rfl (by decide) (by decide) (by omega) (by omega) hc17 ?_
                refine gy_s 2 (pc' := 14) (L' := [some (.ref m), some (.int (zi st)), some (.int (zi z10)), some (.int (zi (257 * st))), some (.int (zi j)), some (.int ((zi n) + zi 1))]) (S' := []) (L2 := [some (.ref m), some (.int (zi st)), some (.int (zi z10)), some (.int (zi (257 * st))), some (.int (zi j)), some (.int (zi (n + 1)))]) (S2 := []) rfl (by simp only [zi_add, zi_sub, zi_mul, zi_neg, zi_and1, zi_and7, zi_and15, zi_and31, zi_and255]) (by simp only [zi_add, zi_sub, zi_mul, zi_neg, zi_and1, zi_and7, zi_and15, zi_and31, zi_and255]) ?_
                exact gz_wk (ihlp1 h13 z10 j (n + 1) av kv uv (by omega) sh13 (by omega) (by omega) (by omega) (by omega) (by omega) (by omega) (by omega) (by omega) (by omega) lp12k0 lp12k1 lp12k2 lp12k3) (gLw.s (gLw.s (gLw.s (gLw.s (gLw.s (gLw.s gLw.z))))))
              · refine gy_icF rfl (by decide) (by decide) (by omega) (by omega) hc17 ?_
                refine gz_s 1 (pc' := 51) (L' := [some (.ref m), some (.int (zi st)), some (.int (zi z10)), some (.int (zi (257 * st))), some (.int (zi j)), some (.int (zi n))]) (S' := [.ref m]) rfl ?_
                refine gs_gtr rfl (by decide) rfl sh13.1 tm rfl rfl rfl (fun c18 ec18 tc18 => ?_)
                refine gy_s 3 (pc' := 58) (L' := [some (.ref m), some (.int (zi st)), some (.int (zi z10)), some (.int (zi (257 * st))), some (.int (zi j)), some (.int (zi n))]) (S' := [.int ((zi (257 * st)) + (zi j)), .ref c18]) (L2 := [some (.ref m), some (.int (zi st)), some (.int (zi z10)), some (.int (zi (257 * st))), some (.int (zi j)), some (.int (zi n))]) (S2 := [.int (zi ((257 * st) + j)), .ref c18]) rfl (by simp only [zi_add, zi_sub, zi_mul, zi_neg, zi_and1, zi_and7, zi_and15, zi_and31, zi_and255]) (by simp only [zi_add, zi_sub, zi_mul, zi_neg, zi_and1, zi_and7, zi_and15, zi_and31, zi_and255]) ?_
                have hl19 : 2056 ≤ h13.2.2.2.1 c18 ∧ h13.2.2.2.1 c18 ≤ 2056 := gJ.rowl (G := gGG) sh13.1 tc18 rfl
                refine gs_ald rfl (by decide) sh13.1 tc18 rfl rfl rfl (by decide) (fun _ => rfl) (by omega) (by omega) (fun z20 ez20 az20 bz20 => ?_)
                refine gz_s 1 (pc' := 61) (L' := [some (.ref m), some (.int (zi st)), some (.int (zi z10)), some (.int (zi (257 * st))), some (.int (zi j)), some (.int (zi n))]) (S' := [.int (zi n), .int (zi z20)]) rfl ?_
                by_cases hc21 : ¬ (z20 : Int) = n
                · refine gy_icT (pc' := 93) rfl (by decide) (by decide) (by omega) (by omega) hc21 ?_
                  refine gy_s 2 (pc' := 14) (L' := [some (.ref m), some (.int (zi st)), some (.int (zi z10)), some (.int (zi (257 * st))), some (.int (zi j)), some (.int ((zi n) + zi 1))]) (S' := []) (L2 := [some (.ref m), some (.int (zi st)), some (.int (zi z10)), some (.int (zi (257 * st))), some (.int (zi j)), some (.int (zi (n + 1)))]) (S2 := []) rfl (by simp only [zi_add, zi_sub, zi_mul, zi_neg, zi_and1, zi_and7, zi_and15, zi_and31, zi_and255]) (by simp only [zi_add, zi_sub, zi_mul, zi_neg, zi_and1, zi_and7, zi_and15, zi_and31, zi_and255]) ?_
                  exact gz_wk (ihlp1 h13 z10 j (n + 1) av kv uv (by omega) sh13 (by omega) (by omega) (by omega) (by omega) (by omega) (by omega) (by omega) (by omega) (by omega) lp12k0 lp12k1 lp12k2 lp12k3) (gLw.s (gLw.s (gLw.s (gLw.s (gLw.s (gLw.s gLw.z))))))
                · refine gy_icF rfl (by decide) (by decide) (by omega) (by omega) hc21 ?_
                  refine gz_s 1 (pc' := 65) (L' := [some (.ref m), some (.int (zi st)), some (.int (zi z10)), some (.int (zi (257 * st))), some (.int (zi j)), some (.int (zi n))]) (S' := [.ref m]) rfl ?_
                  refine gs_gtr rfl (by decide) rfl sh13.1 tm rfl rfl rfl (fun c22 ec22 tc22 => ?_)
                  refine gy_s 3 (pc' := 72) (L' := [some (.ref m), some (.int (zi st)), some (.int (zi z10)), some (.int (zi (257 * st))), some (.int (zi j)), some (.int (zi n))]) (S' := [.int ((zi (257 * st)) + (zi j)), .ref c22]) (L2 := [some (.ref m), some (.int (zi st)), some (.int (zi z10)), some (.int (zi (257 * st))), some (.int (zi j)), some (.int (zi n))]) (S2 := [.int (zi ((257 * st) + j)), .ref c22]) rfl (by simp only [zi_add, zi_sub, zi_mul, zi_neg, zi_and1, zi_and7, zi_and15, zi_and31, zi_and255]) (by simp only [zi_add, zi_sub, zi_mul, zi_neg, zi_and1, zi_and7, zi_and15, zi_and31, zi_and255]) ?_
                  have hl23 : 2056 ≤ h13.2.2.2.1 c22 ∧ h13.2.2.2.1 c22 ≤ 2056 := gJ.rowl (G := gGG) sh13.1 tc22 rfl
                  refine gs_ald rfl (by decide) sh13.1 tc22 rfl rfl rfl (by decide) (fun _ => rfl) (by omega) (by omega) (fun z24 ez24 az24 bz24 => ?_)
                  refine gz_s 1 (pc' := 74) (L' := [some (.ref m), some (.int (zi st)), some (.int (zi z10)), some (.int (zi (257 * st))), some (.int (zi j)), some (.int (zi n))]) (S' := [.int (zi z10), .int (zi z24)]) rfl ?_
                  by_cases hc25 : ¬ (z24 : Int) = z10
                  · refine gy_icT (pc' := 87) rfl (by decide) (by decide) (by omega) (by omega) hc25 ?_
                    refine gy_s 2 (pc' := 39) (L' := [some (.ref m), some (.int (zi st)), some (.int (zi z10)), some (.int (zi (257 * st))), some (.int ((zi j) + zi 1)), some (.int (zi n))]) (S' := []) (L2 := [some (.ref m), some (.int (zi st)), some (.int (zi z10)), some (.int (zi (257 * st))), some (.int (zi (j + 1))), some (.int (zi n))]) (S2 := []) rfl (by simp only [zi_add, zi_sub, zi_mul, zi_neg, zi_and1, zi_and7, zi_and15, zi_and31, zi_and255]) (by simp only [zi_add, zi_sub, zi_mul, zi_neg, zi_and1, zi_and7, zi_and15, zi_and31, zi_and255]) ?_
                    exact gz_wk (ihlp12 h13 (j + 1) av kv uv (by omega) sh13 (by omega) (by omega) (by omega) (by omega) (by omega) (by omega) (by omega) lp12k0 lp12k1 lp12k2 lp12k3) (gLw.s (gLw.s (gLw.s (gLw.s (gLw.s (gLw.s gLw.z))))))
                  · refine gy_icF rfl (by decide) (by decide) (by omega) (by omega) hc25 ?_
                    refine gz_s 1 (pc' := 78) (L' := [some (.ref m), some (.int (zi st)), some (.int (zi z10)), some (.int (zi (257 * st))), some (.int (zi j)), some (.int (zi n))]) (S' := [.ref m]) rfl ?_
                    refine gs_gtr rfl (by decide) rfl sh13.1 tm rfl rfl rfl (fun c26 ec26 tc26 => ?_)
                    refine gy_s 3 (pc' := 85) (L' := [some (.ref m), some (.int (zi st)), some (.int (zi z10)), some (.int (zi (257 * st))), some (.int (zi j)), some (.int (zi n))]) (S' := [.int ((zi (257 * st)) + (zi j)), .ref c26]) (L2 := [some (.ref m), some (.int (zi st)), some (.int (zi z10)), some (.int (zi (257 * st))), some (.int (zi j)), some (.int (zi n))]) (S2 := [.int (zi ((257 * st) + j)), .ref c26]) rfl (by simp only [zi_add, zi_sub, zi_mul, zi_neg, zi_and1, zi_and7, zi_and15, zi_and31, zi_and255]) (by simp only [zi_add, zi_sub, zi_mul, zi_neg, zi_and1, zi_and7, zi_and15, zi_and31, zi_and255]) ?_
                    have hl27 : 2056 ≤ h13.2.2.2.1 c26 ∧ h13.2.2.2.1 c26 ≤ 2056 := gJ.rowl (G := gGG) sh13.1 tc26 rfl
                    refine gs_ald rfl (by decide) sh13.1 tc26 rfl rfl rfl (by decide) (fun _ => rfl) (by omega) (by omega) (fun z28 ez28 az28 bz28 => ?_)
                    exact gz_end (I := .ireturn) (len := 1) rfl (Or.inl rfl) ⟨sh13, z28, av, kv, uv, rfl, (by omega), (by omega), lp12k1, (by omega), (by omega), lp12k2, (by omega), (by omega), lp12k3, (by omega), (by omega), (by omega), (by omega), (by omega)⟩
          exact gz_wk (lp12 _ hq8 k fq8_0 fq8_1 fq8_2 (Nat.lt_succ_self _) sq8 (by omega) (by omega) (by omega) (by omega) (by omega) (by omega) (by omega) s9 efq8_0 efq8_1 efq8_2) (gLw.s (gLw.s (gLw.s (gLw.s (gLw.s (gLw.s gLw.z))))))
        · refine gy_ifF rfl (by decide) (by decide) (by omega) hc11 ?_
          refine gz_s 1 (pc' := 38) (L' := [some (.ref m), some (.int (zi st)), some (.int (zi z10)), some (.int (zi (257 * st))), some (.int (zi k)), some (.int (zi n))]) (S' := [.int (zi 0)]) rfl ?_
          exact gz_end (I := .ireturn) (len := 1) rfl (Or.inl rfl) ⟨sq8, 0, fq8_0, fq8_1, fq8_2, rfl, (by omega), (by omega), efq8_0, (by omega), (by omega), efq8_1, (by omega), (by omega), efq8_2, (by omega), (by omega), (by omega), (by omega), (by omega)⟩
  exact gz_wk (lp1 _ h 0 0 1 a0 k0 u0 (Nat.lt_succ_self _) hS (by omega) (by omega) (by omega) (by omega) (by omega) (by omega) (by omega) (by omega) (by omega) esz ea0 ek0 eu0) (gLw.s (gLw.s (gLw.s (gLw.s (gLw.s (gLw.s gLw.z))))))
set_option maxRecDepth 20000 in
set_option maxHeartbeats 4000000 in
theorem mm_grow (d : Nat) {ty : Nat → Nat} {h : gH} (hJ : gJ rT 1027 ty h) (m : Nat) (tm : ty m = 1) (p : Int) (rp : 0 ≤ p ∧ p ≤ 12287) (a0 : Int) (ea0 : h.2.2.2.2 m 47 = .int (zi a0)) (ra0 : 0 ≤ a0 ∧ a0 ≤ 2001) (k0 : Int) (ek0 : h.2.2.2.2 m 48 = .int (zi k0)) (rk0 : 0 ≤ k0 ∧ k0 ≤ 7) (sz : Int) (esz : h.2.2.2.2 m 3 = .int (zi sz)) (rsz : 0 ≤ sz ∧ sz ≤ 2000) (u0 : Int) (eu0 : h.2.2.2.2 m 46 = .int (zi u0)) (ru0 : 0 ≤ u0 ∧ u0 ≤ 1) (lw : Int) (elw : h.2.2.2.2 m 44 = .int (zi lw)) (rlw : 0 ≤ lw ∧ lw ≤ 13) (p0 : k0 = 0 ∨ a0 < sz) : gz gPP gGG gcn (d + 2) gt162 0 (gent [.ref m, .int (zi p)] 5) [] h (fun q _ => gSs rT 1027 ty [1046, 1047, 1048, 23999] h q.2.2 ∧ ∃ a1 k1 u1 : Int, gfin gt162 q.1 q.2.1 = some none ∧ q.2.2.2.2.2.2 m 47 = .int (zi a1) ∧ 0 ≤ a1 ∧ a1 ≤ 2001 ∧ q.2.2.2.2.2.2 m 48 = .int (zi k1) ∧ 0 ≤ k1 ∧ k1 ≤ 7 ∧ q.2.2.2.2.2.2 m 46 = .int (zi u1) ∧ 0 ≤ u1 ∧ u1 ≤ 1 ∧ (k1 = 0 ∨ a1 < sz) ∧ (a0 ≤ a1) ∧ (u1 = 0 → u0 = 0)) := by
  have hS : gSs rT 1027 ty [1046, 1047, 1048, 23999] h h := gSs.rf hJ
  refine gz_s 1 (pc' := 1) (L' := [some (.ref m), some (.int (zi p)), none, none, none]) (S' := [.ref m]) rfl ?_
  refine gz_call rfl (by decide) rfl (by decide) (by decide) (gcal_of rfl rfl rfl (Nat.le_of_ble_eq_true rfl) (gJ.recv (G := gGG) hS.1 tm rfl rfl)) (mm_bit _ hS.1 m tm a0 ea0 (by omega) k0 ek0 (by omega) sz esz (by omega) u0 eu0 (by omega) (by omega)) (fun q1 _ wq1 => ?_)
  obtain ⟨pq1, oq1, hq1⟩ := q1
  obtain ⟨xq1, zq1, fq1_0, fq1_1, fq1_2, gq1, aq1, bq1, efq1_0, afq1_0, bfq1_0, efq1_1, afq1_1, bfq1_1, efq1_2, afq1_2, bfq1_2, uq1_0, uq1_1, uq1_2⟩ := wq1
  refine ⟨_, gq1, ?_⟩
  show gz gPP gGG gcn _ _ 4 [some (.ref m), some (.int (zi p)), none, none, none] [.int (zi zq1)] hq1 _
  have sq1 := gSs.tr hS xq1 (by decide)
  have s2 := (xq1.2.2.2.2.2 m 3 (by rw [tm]; decide)).trans esz
  have s3 := (xq1.2.2.2.2.2 m 44 (by rw [tm]; decide)).trans elw
  refine gz_s 2 (pc' := 6) (L' := [some (.ref m), some (.int (zi p)), some (.int (zi zq1)), none, none]) (S' := [.ref m]) rfl ?_
  refine gs_gtk rfl (by decide) rfl sq1.1 tm rfl rfl efq1_2 ?_
  by_cases hc4 : ¬ (fq1_2 : Int) = 0
  · refine gy_ifT (pc' := 16) rfl (by decide) (by decide) (by omega) hc4 ?_
    exact gz_end (I := .return_) (len := 1) rfl (Or.inl rfl) ⟨sq1, fq1_0, fq1_1, fq1_2, rfl, efq1_0, (by omega), (by omega), efq1_1, (by omega), (by omega), efq1_2, (by omega), (by omega), (by omega), (by omega), (by omega)⟩
  · refine gy_ifF rfl (by decide) (by decide) (by omega) hc4 ?_
    refine gz_s 1 (pc' := 13) (L' := [some (.ref m), some (.int (zi p)), some (.int (zi zq1)), none, none]) (S' := [.int (zi zq1)]) rfl ?_
    by_cases hc5 : ¬ (zq1 : Int) = 0
    · refine gy_ifT (pc' := 17) rfl (by decide) (by decide) (by omega) hc5 ?_
      refine gz_s 1 (pc' := 18) (L' := [some (.ref m), some (.int (zi p)), some (.int (zi zq1)), none, none]) (S' := [.ref m]) rfl ?_
      refine gs_gtr rfl (by decide) rfl sq1.1 tm rfl rfl rfl (fun c6 ec6 tc6 => ?_)
      refine gz_s 1 (pc' := 22) (L' := [some (.ref m), some (.int (zi p)), some (.int (zi zq1)), none, none]) (S' := [.int (zi p), .ref c6]) rfl ?_
      have hl7 : 12288 ≤ hq1.2.2.2.1 c6 ∧ hq1.2.2.2.1 c6 ≤ 12288 := gJ.rowl (G := gGG) sq1.1 tc6 rfl
      refine gs_ald rfl (by decide) sq1.1 tc6 rfl rfl rfl (by decide) (fun _ => rfl) (by omega) (by omega) (fun z8 ez8 az8 bz8 => ?_)
      refine gz_s 2 (pc' := 25) (L' := [some (.ref m), some (.int (zi p)), some (.int (zi zq1)), some (.int (zi z8)), none]) (S' := [.int (zi z8)]) rfl ?_
      by_cases hc9 : (0 : Int) ≤ z8
      · refine gy_ifT (pc' := 33) rfl (by decide) (by decide) (by omega) hc9 ?_
        refine gz_s 1 (pc' := 34) (L' := [some (.ref m), some (.int (zi p)), some (.int (zi zq1)), some (.int (zi z8)), none]) (S' := [.int (zi z8)]) rfl ?_
        refine gy_any (fun z10 ez10 az10 bz10 => ?_)
        refine gz_s 3 (pc' := 39) (L' := [some (.ref m), some (.int (zi p)), some (.int (zi zq1)), some (.int (zi z8)), some (.int (zi z10))]) (S' := [.ref m, .int (zi z10)]) rfl ?_
        refine gs_gtk rfl (by decide) rfl sq1.1 tm rfl rfl s3 ?_
        refine gy_shv rfl (by decide) (by omega) (by omega) (fun z11 az11 bz11 => ?_)
        refine gy_s 2 (pc' := 45) (L' := [some (.ref m), some (.int (zi p)), some (.int (zi zq1)), some (.int (zi z8)), some (.int (zi z10))]) (S' := [.int ((zi z11) &&& (zi 1))]) (L2 := [some (.ref m), some (.int (zi p)), some (.int (zi zq1)), some (.int (zi z8)), some (.int (zi z10))]) (S2 := [.int (zi (z11 % 2))]) rfl (by simp only [zi_add, zi_sub, zi_mul, zi_neg, zi_and1, zi_and7, zi_and15, zi_and31, zi_and255]) (by simp only [zi_add, zi_sub, zi_mul, zi_neg, zi_and1, zi_and7, zi_and15, zi_and31, zi_and255]) ?_
        by_cases hc12 : ¬ (z11 % 2 : Int) = 0
        · refine gy_ifT (pc' := 77) rfl (by decide) (by decide) (by omega) hc12 ?_
          exact gz_end (I := .return_) (len := 1) rfl (Or.inl rfl) ⟨sq1, fq1_0, fq1_1, fq1_2, rfl, efq1_0, (by omega), (by omega), efq1_1, (by omega), (by omega), efq1_2, (by omega), (by omega), (by omega), (by omega), (by omega)⟩
        · refine gy_ifF rfl (by decide) (by decide) (by omega) hc12 ?_
          refine gz_s 1 (pc' := 49) (L' := [some (.ref m), some (.int (zi p)), some (.int (zi zq1)), some (.int (zi z8)), some (.int (zi z10))]) (S' := [.ref m]) rfl ?_
          refine gs_gtk rfl (by decide) rfl sq1.1 tm rfl rfl ec6 ?_
          refine gz_s 2 (pc' := 54) (L' := [some (.ref m), some (.int (zi p)), some (.int (zi zq1)), some (.int (zi z8)), some (.int (zi z10))]) (S' := [.int (zi z8), .int (zi p), .ref c6]) rfl ?_
          by_cases hc13 : (z8 : Int) ≤ 0
          · refine gy_ifT (pc' := 68) rfl (by decide) (by decide) (by omega) hc13 ?_
            refine gz_s 3 (pc' := 71) (L' := [some (.ref m), some (.int (zi p)), some (.int (zi zq1)), some (.int (zi z8)), some (.int (zi z10))]) (S' := [.ref m, .int (zi 1), .int (zi z8), .int (zi p), .ref c6]) rfl ?_
            refine gs_gtk rfl (by decide) rfl sq1.1 tm rfl rfl s3 ?_
            refine gy_sh1 rfl (by decide) (by omega) (fun z14 az14 bz14 cz14 => ?_)
            refine gy_s 1 (pc' := 76) (L' := [some (.ref m), some (.int (zi p)), some (.int (zi zq1)), some (.int (zi z8)), some (.int (zi z10))]) (S' := [.int ((zi z8) - (zi z14)), .int (zi p), .ref c6]) (L2 := [some (.ref m), some (.int (zi p)), some (.int (zi zq1)), some (.int (zi z8)), some (.int (zi z10))]) (S2 := [.int (zi (z8 - z14)), .int (zi p), .ref c6]) rfl (by simp only [zi_add, zi_sub, zi_mul, zi_neg, zi_and1, zi_and7, zi_and15, zi_and31, zi_and255]) (by simp only [zi_add, zi_sub, zi_mul, zi_neg, zi_and1, zi_and7, zi_and15, zi_and31, zi_and255]) ?_
            have hl15 : 12288 ≤ hq1.2.2.2.1 c6 ∧ hq1.2.2.2.1 c6 ≤ 12288 := gJ.rowl (G := gGG) sq1.1 tc6 rfl
            refine gs_ast rfl (by decide) sq1 tc6 rfl rfl rfl (by decide) (fun _ => rfl) (by omega) (by omega) (fun _ => (by decide : (23999 : Nat) ∈ ([1046, 1047, 1048, 23999] : List Nat))) (by omega) (by omega) (fun h16 sh16 eh16 fh16 => ?_)
            have s17 := (fh16 m 3 (fun q => absurd (((tm).symm.trans (congrArg ty q.1)).trans tc6) (by decide))).trans s2
            have s18 := (fh16 m 44 (fun q => absurd (((tm).symm.trans (congrArg ty q.1)).trans tc6) (by decide))).trans s3
            have s19 := (fh16 m 47 (fun q => absurd (((tm).symm.trans (congrArg ty q.1)).trans tc6) (by decide))).trans efq1_0
            have s20 := (fh16 m 48 (fun q => absurd (((tm).symm.trans (congrArg ty q.1)).trans tc6) (by decide))).trans efq1_1
            have s21 := (fh16 m 46 (fun q => absurd (((tm).symm.trans (congrArg ty q.1)).trans tc6) (by decide))).trans efq1_2
            have s22 := (fh16 m 37 (fun q => absurd (((tm).symm.trans (congrArg ty q.1)).trans tc6) (by decide))).trans ec6
            exact gz_end (I := .return_) (len := 1) rfl (Or.inl rfl) ⟨sh16, fq1_0, fq1_1, fq1_2, rfl, s19, (by omega), (by omega), s20, (by omega), (by omega), s21, (by omega), (by omega), (by omega), (by omega), (by omega)⟩
          · refine gy_ifF rfl (by decide) (by decide) (by omega) hc13 ?_
            refine gz_s 3 (pc' := 60) (L' := [some (.ref m), some (.int (zi p)), some (.int (zi zq1)), some (.int (zi z8)), some (.int (zi z10))]) (S' := [.ref m, .int (zi 1), .int (zi z8), .int (zi p), .ref c6]) rfl ?_
            refine gs_gtk rfl (by decide) rfl sq1.1 tm rfl rfl s3 ?_
            refine gy_sh1 rfl (by decide) (by omega) (fun z23 az23 bz23 cz23 => ?_)
            refine gy_s 2 (pc' := 76) (L' := [some (.ref m), some (.int (zi p)), some (.int (zi zq1)), some (.int (zi z8)), some (.int (zi z10))]) (S' := [.int ((zi z8) + (zi z23)), .int (zi p), .ref c6]) (L2 := [some (.ref m), some (.int (zi p)), some (.int (zi zq1)), some (.int (zi z8)), some (.int (zi z10))]) (S2 := [.int (zi (z8 + z23)), .int (zi p), .ref c6]) rfl (by simp only [zi_add, zi_sub, zi_mul, zi_neg, zi_and1, zi_and7, zi_and15, zi_and31, zi_and255]) (by simp only [zi_add, zi_sub, zi_mul, zi_neg, zi_and1, zi_and7, zi_and15, zi_and31, zi_and255]) ?_
            have hl24 : 12288 ≤ hq1.2.2.2.1 c6 ∧ hq1.2.2.2.1 c6 ≤ 12288 := gJ.rowl (G := gGG) sq1.1 tc6 rfl
            refine gy_any (fun z26 ez26 az26 bz26 => ?_)
            refine gs_ast rfl (by decide) sq1 tc6 rfl rfl rfl (by decide) (fun _ => rfl) (by omega) (by omega) (fun _ => (by decide : (23999 : Nat) ∈ ([1046, 1047, 1048, 23999] : List Nat))) (by omega) (by omega) (fun h25 sh25 eh25 fh25 => ?_)
            have s27 := (fh25 m 3 (fun q => absurd (((tm).symm.trans (congrArg ty q.1)).trans tc6) (by decide))).trans s2
            have s28 := (fh25 m 44 (fun q => absurd (((tm).symm.trans (congrArg ty q.1)).trans tc6) (by decide))).trans s3
            have s29 := (fh25 m 47 (fun q => absurd (((tm).symm.trans (congrArg ty q.1)).trans tc6) (by decide))).trans efq1_0
            have s30 := (fh25 m 48 (fun q => absurd (((tm).symm.trans (congrArg ty q.1)).trans tc6) (by decide))).trans efq1_1
            have s31 := (fh25 m 46 (fun q => absurd (((tm).symm.trans (congrArg ty q.1)).trans tc6) (by decide))).trans efq1_2
            have s32 := (fh25 m 37 (fun q => absurd (((tm).symm.trans (congrArg ty q.1)).trans tc6) (by decide))).trans ec6
            exact gz_end (I := .return_) (len := 1) rfl (Or.inl rfl) ⟨sh25, fq1_0, fq1_1, fq1_2, rfl, s29, (by omega), (by omega), s30, (by omega), (by omega), s31, (by omega), (by omega), (by omega), (by omega), (by omega)⟩
      · refine gy_ifF rfl (by decide) (by decide) (by omega) hc9 ?_
        refine gy_s 3 (pc' := 34) (L' := [some (.ref m), some (.int (zi p)), some (.int (zi zq1)), some (.int (zi z8)), none]) (S' := [.int (-(zi z8))]) (L2 := [some (.ref m), some (.int (zi p)), some (.int (zi zq1)), some (.int (zi z8)), none]) (S2 := [.int (zi (-z8))]) rfl (by simp only [zi_add, zi_sub, zi_mul, zi_neg, zi_and1, zi_and7, zi_and15, zi_and31, zi_and255]) (by simp only [zi_add, zi_sub, zi_mul, zi_neg, zi_and1, zi_and7, zi_and15, zi_and31, zi_and255]) ?_
        refine gy_any (fun z33 ez33 az33 bz33 => ?_)
        refine gz_s 3 (pc' := 39) (L' := [some (.ref m), some (.int (zi p)), some (.int (zi zq1)), some (.int (zi z8)), some (.int (zi z33))]) (S' := [.ref m, .int (zi z33)]) rfl ?_
        refine gs_gtk rfl (by decide) rfl sq1.1 tm rfl rfl s3 ?_
        refine gy_shv rfl (by decide) (by omega) (by omega) (fun z34 az34 bz34 => ?_)
        refine gy_s 2 (pc' := 45) (L' := [some (.ref m), some (.int (zi p)), some (.int (zi zq1)), some (.int (zi z8)), some (.int (zi z33))]) (S' := [.int ((zi z34) &&& (zi 1))]) (L2 := [some (.ref m), some (.int (zi p)), some (.int (zi zq1)), some (.int (zi z8)), some (.int (zi z33))]) (S2 := [.int (zi (z34 % 2))]) rfl (by simp only [zi_add, zi_sub, zi_mul, zi_neg, zi_and1, zi_and7, zi_and15, zi_and31, zi_and255]) (by simp only [zi_add, zi_sub, zi_mul, zi_neg, zi_and1, zi_and7, zi_and15, zi_and31, zi_and255]) ?_
        by_cases hc35 : ¬ (z34 % 2 : Int) = 0
        · refine gy_ifT (pc' := 77) rfl (by decide) (by decide) (by omega) hc35 ?_
          exact gz_end (I := .return_) (len := 1) rfl (Or.inl rfl) ⟨sq1, fq1_0, fq1_1, fq1_2, rfl, efq1_0, (by omega), (by omega), efq1_1, (by omega), (by omega), efq1_2, (by omega), (by omega), (by omega), (by omega), (by omega)⟩
        · refine gy_ifF rfl (by decide) (by decide) (by omega) hc35 ?_
          refine gz_s 1 (pc' := 49) (L' := [some (.ref m), some (.int (zi p)), some (.int (zi zq1)), some (.int (zi z8)), some (.int (zi z33))]) (S' := [.ref m]) rfl ?_
          refine gs_gtk rfl (by decide) rfl sq1.1 tm rfl rfl ec6 ?_
          refine gz_s 2 (pc' := 54) (L' := [some (.ref m), some (.int (zi p)), some (.int (zi zq1)), some (.int (zi z8)), some (.int (zi z33))]) (S' := [.int (zi z8), .int (zi p), .ref c6]) rfl ?_
          refine gy_ifT (pc' := 68) rfl (by decide) (by decide) (by omega) (by first | (simp [zc]; done) | (simp only [zc]; omega)) ?_
          refine gz_s 3 (pc' := 71) (L' := [some (.ref m), some (.int (zi p)), some (.int (zi zq1)), some (.int (zi z8)), some (.int (zi z33))]) (S' := [.ref m, .int (zi 1), .int (zi z8), .int (zi p), .ref c6]) rfl ?_
          refine gs_gtk rfl (by decide) rfl sq1.1 tm rfl rfl s3 ?_
          refine gy_sh1 rfl (by decide) (by omega) (fun z36 az36 bz36 cz36 => ?_)
          refine gy_s 1 (pc' := 76) (L' := [some (.ref m), some (.int (zi p)), some (.int (zi zq1)), some (.int (zi z8)), some (.int (zi z33))]) (S' := [.int ((zi z8) - (zi z36)), .int (zi p), .ref c6]) (L2 := [some (.ref m), some (.int (zi p)), some (.int (zi zq1)), some (.int (zi z8)), some (.int (zi z33))]) (S2 := [.int (zi (z8 - z36)), .int (zi p), .ref c6]) rfl (by simp only [zi_add, zi_sub, zi_mul, zi_neg, zi_and1, zi_and7, zi_and15, zi_and31, zi_and255]) (by simp only [zi_add, zi_sub, zi_mul, zi_neg, zi_and1, zi_and7, zi_and15, zi_and31, zi_and255]) ?_
          have hl37 : 12288 ≤ hq1.2.2.2.1 c6 ∧ hq1.2.2.2.1 c6 ≤ 12288 := gJ.rowl (G := gGG) sq1.1 tc6 rfl
          refine gy_any (fun z39 ez39 az39 bz39 => ?_)
          refine gs_ast rfl (by decide) sq1 tc6 rfl rfl rfl (by decide) (fun _ => rfl) (by omega) (by omega) (fun _ => (by decide : (23999 : Nat) ∈ ([1046, 1047, 1048, 23999] : List Nat))) (by omega) (by omega) (fun h38 sh38 eh38 fh38 => ?_)
          have s40 := (fh38 m 3 (fun q => absurd (((tm).symm.trans (congrArg ty q.1)).trans tc6) (by decide))).trans s2
          have s41 := (fh38 m 44 (fun q => absurd (((tm).symm.trans (congrArg ty q.1)).trans tc6) (by decide))).trans s3
          have s42 := (fh38 m 47 (fun q => absurd (((tm).symm.trans (congrArg ty q.1)).trans tc6) (by decide))).trans efq1_0
          have s43 := (fh38 m 48 (fun q => absurd (((tm).symm.trans (congrArg ty q.1)).trans tc6) (by decide))).trans efq1_1
          have s44 := (fh38 m 46 (fun q => absurd (((tm).symm.trans (congrArg ty q.1)).trans tc6) (by decide))).trans efq1_2
          have s45 := (fh38 m 37 (fun q => absurd (((tm).symm.trans (congrArg ty q.1)).trans tc6) (by decide))).trans ec6
          exact gz_end (I := .return_) (len := 1) rfl (Or.inl rfl) ⟨sh38, fq1_0, fq1_1, fq1_2, rfl, s42, (by omega), (by omega), s43, (by omega), (by omega), s44, (by omega), (by omega), (by omega), (by omega), (by omega)⟩
    · refine gy_ifF rfl (by decide) (by decide) (by omega) hc5 ?_
      exact gz_end (I := .return_) (len := 1) rfl (Or.inl rfl) ⟨sq1, fq1_0, fq1_1, fq1_2, rfl, efq1_0, (by omega), (by omega), efq1_1, (by omega), (by omega), efq1_2, (by omega), (by omega), (by omega), (by omega), (by omega)⟩
