/-! ===== methods of the landed text (by program) ===== -/
set_option maxRecDepth 20000 in
set_option maxHeartbeats 4000000 in
theorem cw_nlz (d : Nat) {ty : Nat → Nat} {h : gH} (hJ : gJ rT 1027 ty h) (a : Int) (ra : 0 ≤ a ∧ a ≤ 4096) : gz gPP gGG gcn (d + 0) gt114 0 (gent [.int (zi a)] 2) [] h (fun q _ => gSs rT 1027 ty [] h q.2.2 ∧ ∃ z : Int, gfin gt114 q.1 q.2.1 = some (some (.int (zi z))) ∧ 16 ≤ z ∧ z ≤ 32 ∧ (z = 32 - eeL a)) := by
  have hS : gSs rT 1027 ty [] h h := gSs.rf hJ
  refine gz_s 1 (pc' := 1) (L' := [some (.int (zi a)), none]) (S' := [.int (zi a)]) rfl ?_
  by_cases hc1 : (0 : Int) < a
  · refine gy_ifT (pc' := 15) rfl (by decide) (by decide) (by omega) hc1 ?_
    refine gz_s 3 (pc' := 19) (L' := [some (.int (zi a)), some (.int (zi 31))]) (S' := [.int (zi a)]) rfl ?_
    refine gz_1 rfl (by decide) rfl rfl (pc' := 22) (S' := [.int (zi 65536), .int (zi a)]) (h' := h) rfl ?_
    refine gy_icT (pc' := 33) rfl (by decide) (by decide) ⟨by omega, by omega⟩ ⟨by omega, by omega⟩ (by first | (simp [zc]; done) | (simp only [zc]; omega)) ?_
    refine gz_s 2 (pc' := 37) (L' := [some (.int (zi a)), some (.int (zi 31))]) (S' := [.int (zi 256), .int (zi a)]) rfl ?_
    by_cases hc2 : (a : Int) < 256
    · refine gy_icT (pc' := 48) rfl (by decide) (by decide) (by omega) (by omega) hc2 ?_
      refine gz_s 2 (pc' := 51) (L' := [some (.int (zi a)), some (.int (zi 31))]) (S' := [.int (zi 16), .int (zi a)]) rfl ?_
      by_cases hc3 : (a : Int) < 16
      · refine gy_icT (pc' := 61) rfl (by decide) (by decide) (by omega) (by omega) hc3 ?_
        refine gz_s 2 (pc' := 63) (L' := [some (.int (zi a)), some (.int (zi 31))]) (S' := [.int (zi 4), .int (zi a)]) rfl ?_
        by_cases hc4 : (a : Int) < 4
        · refine gy_icT (pc' := 73) rfl (by decide) (by decide) (by omega) (by omega) hc4 ?_
          refine gz_s 3 (pc' := 76) (L' := [some (.int (zi a)), some (.int (zi 31))]) (S' := [.int (zi 1), .int (zi a), .int (zi 31)]) rfl ?_
          refine gy_ushc (n := 1) (v := 2) rfl (by decide) (by omega) rfl (by decide) (by decide) ?_
          refine gy_s 1 (pc' := 78) (L' := [some (.int (zi a)), some (.int (zi 31))]) (S' := [.int ((zi 31) - (zi (a / 2)))]) (L2 := [some (.int (zi a)), some (.int (zi 31))]) (S2 := [.int (zi (31 - (a / 2)))]) rfl (by simp only [zi_add, zi_sub, zi_mul, zi_neg, zi_and1, zi_and7, zi_and15, zi_and31, zi_and255]) (by simp only [zi_add, zi_sub, zi_mul, zi_neg, zi_and1, zi_and7, zi_and15, zi_and31, zi_and255]) ?_
          have hL : eeL a = (if a < 1 then 0 else if a < 2 then 1 else if a < 4 then 2 else if a < 8 then 3 else if a < 16 then 4 else if a < 32 then 5 else if a < 64 then 6 else if a < 128 then 7 else if a < 256 then 8 else if a < 512 then 9 else if a < 1024 then 10 else if a < 2048 then 11 else if a < 4096 then 12 else 13) := rfl
          exact gz_end (I := .ireturn) (len := 1) rfl (Or.inl rfl) ⟨hS, 31 - (a / 2), rfl, (by omega), (by omega), (by omega)⟩
        · refine gy_icF rfl (by decide) (by decide) (by omega) (by omega) hc4 ?_
          refine gy_s 3 (pc' := 71) (L' := [some (.int (zi a)), some (.int ((zi 31) + zi (-2)))]) (S' := [.int (zi 2), .int (zi a)]) (L2 := [some (.int (zi a)), some (.int (zi (31 + (-2))))]) (S2 := [.int (zi 2), .int (zi a)]) rfl (by simp only [zi_add, zi_sub, zi_mul, zi_neg, zi_and1, zi_and7, zi_and15, zi_and31, zi_and255]) (by simp only [zi_add, zi_sub, zi_mul, zi_neg, zi_and1, zi_and7, zi_and15, zi_and31, zi_and255]) ?_
          refine gy_ushc (n := 2) (v := 4) rfl (by decide) (by omega) rfl (by decide) (by decide) ?_
          refine gz_s 4 (pc' := 76) (L' := [some (.int (zi (a / 4))), some (.int (zi (31 + (-2))))]) (S' := [.int (zi 1), .int (zi (a / 4)), .int (zi (31 + (-2)))]) rfl ?_
          refine gy_ushc (n := 1) (v := 2) rfl (by decide) (by omega) rfl (by decide) (by decide) ?_
          refine gy_s 1 (pc' := 78) (L' := [some (.int (zi (a / 4))), some (.int (zi (31 + (-2))))]) (S' := [.int ((zi (31 + (-2))) - (zi ((a / 4) / 2)))]) (L2 := [some (.int (zi (a / 4))), some (.int (zi (31 + (-2))))]) (S2 := [.int (zi ((31 + (-2)) - ((a / 4) / 2)))]) rfl (by simp only [zi_add, zi_sub, zi_mul, zi_neg, zi_and1, zi_and7, zi_and15, zi_and31, zi_and255]) (by simp only [zi_add, zi_sub, zi_mul, zi_neg, zi_and1, zi_and7, zi_and15, zi_and31, zi_and255]) ?_
          have hL : eeL a = (if a < 1 then 0 else if a < 2 then 1 else if a < 4 then 2 else if a < 8 then 3 else if a < 16 then 4 else if a < 32 then 5 else if a < 64 then 6 else if a < 128 then 7 else if a < 256 then 8 else if a < 512 then 9 else if a < 1024 then 10 else if a < 2048 then 11 else if a < 4096 then 12 else 13) := rfl
          exact gz_end (I := .ireturn) (len := 1) rfl (Or.inl rfl) ⟨hS, (31 + (-2)) - ((a / 4) / 2), rfl, (by omega), (by omega), (by omega)⟩
      · refine gy_icF rfl (by decide) (by decide) (by omega) (by omega) hc3 ?_
        refine gy_s 3 (pc' := 59) (L' := [some (.int (zi a)), some (.int ((zi 31) + zi (-4)))]) (S' := [.int (zi 4), .int (zi a)]) (L2 := [some (.int (zi a)), some (.int (zi (31 + (-4))))]) (S2 := [.int (zi 4), .int (zi a)]) rfl (by simp only [zi_add, zi_sub, zi_mul, zi_neg, zi_and1, zi_and7, zi_and15, zi_and31, zi_and255]) (by simp only [zi_add, zi_sub, zi_mul, zi_neg, zi_and1, zi_and7, zi_and15, zi_and31, zi_and255]) ?_
        refine gy_ushc (n := 4) (v := 16) rfl (by decide) (by omega) rfl (by decide) (by decide) ?_
        refine gz_s 3 (pc' := 63) (L' := [some (.int (zi (a / 16))), some (.int (zi (31 + (-4))))]) (S' := [.int (zi 4), .int (zi (a / 16))]) rfl ?_
        by_cases hc5 : (a / 16 : Int) < 4
        · refine gy_icT (pc' := 73) rfl (by decide) (by decide) (by omega) (by omega) hc5 ?_
          refine gz_s 3 (pc' := 76) (L' := [some (.int (zi (a / 16))), some (.int (zi (31 + (-4))))]) (S' := [.int (zi 1), .int (zi (a / 16)), .int (zi (31 + (-4)))]) rfl ?_
          refine gy_ushc (n := 1) (v := 2) rfl (by decide) (by omega) rfl (by decide) (by decide) ?_
          refine gy_s 1 (pc' := 78) (L' := [some (.int (zi (a / 16))), some (.int (zi (31 + (-4))))]) (S' := [.int ((zi (31 + (-4))) - (zi ((a / 16) / 2)))]) (L2 := [some (.int (zi (a / 16))), some (.int (zi (31 + (-4))))]) (S2 := [.int (zi ((31 + (-4)) - ((a / 16) / 2)))]) rfl (by simp only [zi_add, zi_sub, zi_mul, zi_neg, zi_and1, zi_and7, zi_and15, zi_and31, zi_and255]) (by simp only [zi_add, zi_sub, zi_mul, zi_neg, zi_and1, zi_and7, zi_and15, zi_and31, zi_and255]) ?_
          have hL : eeL a = (if a < 1 then 0 else if a < 2 then 1 else if a < 4 then 2 else if a < 8 then 3 else if a < 16 then 4 else if a < 32 then 5 else if a < 64 then 6 else if a < 128 then 7 else if a < 256 then 8 else if a < 512 then 9 else if a < 1024 then 10 else if a < 2048 then 11 else if a < 4096 then 12 else 13) := rfl
          exact gz_end (I := .ireturn) (len := 1) rfl (Or.inl rfl) ⟨hS, (31 + (-4)) - ((a / 16) / 2), rfl, (by omega), (by omega), (by omega)⟩
        · refine gy_icF rfl (by decide) (by decide) (by omega) (by omega) hc5 ?_
          refine gy_s 3 (pc' := 71) (L' := [some (.int (zi (a / 16))), some (.int ((zi (31 + (-4))) + zi (-2)))]) (S' := [.int (zi 2), .int (zi (a / 16))]) (L2 := [some (.int (zi (a / 16))), some (.int (zi ((31 + (-4)) + (-2))))]) (S2 := [.int (zi 2), .int (zi (a / 16))]) rfl (by simp only [zi_add, zi_sub, zi_mul, zi_neg, zi_and1, zi_and7, zi_and15, zi_and31, zi_and255]) (by simp only [zi_add, zi_sub, zi_mul, zi_neg, zi_and1, zi_and7, zi_and15, zi_and31, zi_and255]) ?_
          refine gy_ushc (n := 2) (v := 4) rfl (by decide) (by omega) rfl (by decide) (by decide) ?_
          refine gz_s 4 (pc' := 76) (L' := [some (.int (zi ((a / 16) / 4))), some (.int (zi ((31 + (-4)) + (-2))))]) (S' := [.int (zi 1), .int (zi ((a / 16) / 4)), .int (zi ((31 + (-4)) + (-2)))]) rfl ?_
          refine gy_ushc (n := 1) (v := 2) rfl (by decide) (by omega) rfl (by decide) (by decide) ?_
          refine gy_s 1 (pc' := 78) (L' := [some (.int (zi ((a / 16) / 4))), some (.int (zi ((31 + (-4)) + (-2))))]) (S' := [.int ((zi ((31 + (-4)) + (-2))) - (zi (((a / 16) / 4) / 2)))]) (L2 := [some (.int (zi ((a / 16) / 4))), some (.int (zi ((31 + (-4)) + (-2))))]) (S2 := [.int (zi (((31 + (-4)) + (-2)) - (((a / 16) / 4) / 2)))]) rfl (by simp only [zi_add, zi_sub, zi_mul, zi_neg, zi_and1, zi_and7, zi_and15, zi_and31, zi_and255]) (by simp only [zi_add, zi_sub, zi_mul, zi_neg, zi_and1, zi_and7, zi_and15, zi_and31, zi_and255]) ?_
          have hL : eeL a = (if a < 1 then 0 else if a < 2 then 1 else if a < 4 then 2 else if a < 8 then 3 else if a < 16 then 4 else if a < 32 then 5 else if a < 64 then 6 else if a < 128 then 7 else if a < 256 then 8 else if a < 512 then 9 else if a < 1024 then 10 else if a < 2048 then 11 else if a < 4096 then 12 else 13) := rfl
          exact gz_end (I := .ireturn) (len := 1) rfl (Or.inl rfl) ⟨hS, ((31 + (-4)) + (-2)) - (((a / 16) / 4) / 2), rfl, (by omega), (by omega), (by omega)⟩
    · refine gy_icF rfl (by decide) (by decide) (by omega) (by omega) hc2 ?_
      refine gy_s 3 (pc' := 46) (L' := [some (.int (zi a)), some (.int ((zi 31) + zi (-8)))]) (S' := [.int (zi 8), .int (zi a)]) (L2 := [some (.int (zi a)), some (.int (zi (31 + (-8))))]) (S2 := [.int (zi 8), .int (zi a)]) rfl (by simp only [zi_add, zi_sub, zi_mul, zi_neg, zi_and1, zi_and7, zi_and15, zi_and31, zi_and255]) (by simp only [zi_add, zi_sub, zi_mul, zi_neg, zi_and1, zi_and7, zi_and15, zi_and31, zi_and255]) ?_
      refine gy_ushc (n := 8) (v := 256) rfl (by decide) (by omega) rfl (by decide) (by decide) ?_
      refine gz_s 3 (pc' := 51) (L' := [some (.int (zi (a / 256))), some (.int (zi (31 + (-8))))]) (S' := [.int (zi 16), .int (zi (a / 256))]) rfl ?_
      by_cases hc6 : (a / 256 : Int) < 16
      · refine gy_icT (pc' := 61) rfl (by decide) (by decide) (by omega) (by omega) hc6 ?_
        refine gz_s 2 (pc' := 63) (L' := [some (.int (zi (a / 256))), some (.int (zi (31 + (-8))))]) (S' := [.int (zi 4), .int (zi (a / 256))]) rfl ?_
        by_cases hc7 : (a / 256 : Int) < 4
        · refine gy_icT (pc' := 73) rfl (by decide) (by decide) (by omega) (by omega) hc7 ?_
          refine gz_s 3 (pc' := 76) (L' := [some (.int (zi (a / 256))), some (.int (zi (31 + (-8))))]) (S' := [.int (zi 1), .int (zi (a / 256)), .int (zi (31 + (-8)))]) rfl ?_
          refine gy_ushc (n := 1) (v := 2) rfl (by decide) (by omega) rfl (by decide) (by decide) ?_
          refine gy_s 1 (pc' := 78) (L' := [some (.int (zi (a / 256))), some (.int (zi (31 + (-8))))]) (S' := [.int ((zi (31 + (-8))) - (zi ((a / 256) / 2)))]) (L2 := [some (.int (zi (a / 256))), some (.int (zi (31 + (-8))))]) (S2 := [.int (zi ((31 + (-8)) - ((a / 256) / 2)))]) rfl (by simp only [zi_add, zi_sub, zi_mul, zi_neg, zi_and1, zi_and7, zi_and15, zi_and31, zi_and255]) (by simp only [zi_add, zi_sub, zi_mul, zi_neg, zi_and1, zi_and7, zi_and15, zi_and31, zi_and255]) ?_
          have hL : eeL a = (if a < 1 then 0 else if a < 2 then 1 else if a < 4 then 2 else if a < 8 then 3 else if a < 16 then 4 else if a < 32 then 5 else if a < 64 then 6 else if a < 128 then 7 else if a < 256 then 8 else if a < 512 then 9 else if a < 1024 then 10 else if a < 2048 then 11 else if a < 4096 then 12 else 13) := rfl
          exact gz_end (I := .ireturn) (len := 1) rfl (Or.inl rfl) ⟨hS, (31 + (-8)) - ((a / 256) / 2), rfl, (by omega), (by omega), (by omega)⟩
        · refine gy_icF rfl (by decide) (by decide) (by omega) (by omega) hc7 ?_
          refine gy_s 3 (pc' := 71) (L' := [some (.int (zi (a / 256))), some (.int ((zi (31 + (-8))) + zi (-2)))]) (S' := [.int (zi 2), .int (zi (a / 256))]) (L2 := [some (.int (zi (a / 256))), some (.int (zi ((31 + (-8)) + (-2))))]) (S2 := [.int (zi 2), .int (zi (a / 256))]) rfl (by simp only [zi_add, zi_sub, zi_mul, zi_neg, zi_and1, zi_and7, zi_and15, zi_and31, zi_and255]) (by simp only [zi_add, zi_sub, zi_mul, zi_neg, zi_and1, zi_and7, zi_and15, zi_and31, zi_and255]) ?_
          refine gy_ushc (n := 2) (v := 4) rfl (by decide) (by omega) rfl (by decide) (by decide) ?_
          refine gz_s 4 (pc' := 76) (L' := [some (.int (zi ((a / 256) / 4))), some (.int (zi ((31 + (-8)) + (-2))))]) (S' := [.int (zi 1), .int (zi ((a / 256) / 4)), .int (zi ((31 + (-8)) + (-2)))]) rfl ?_
          refine gy_ushc (n := 1) (v := 2) rfl (by decide) (by omega) rfl (by decide) (by decide) ?_
          refine gy_s 1 (pc' := 78) (L' := [some (.int (zi ((a / 256) / 4))), some (.int (zi ((31 + (-8)) + (-2))))]) (S' := [.int ((zi ((31 + (-8)) + (-2))) - (zi (((a / 256) / 4) / 2)))]) (L2 := [some (.int (zi ((a / 256) / 4))), some (.int (zi ((31 + (-8)) + (-2))))]) (S2 := [.int (zi (((31 + (-8)) + (-2)) - (((a / 256) / 4) / 2)))]) rfl (by simp only [zi_add, zi_sub, zi_mul, zi_neg, zi_and1, zi_and7, zi_and15, zi_and31, zi_and255]) (by simp only [zi_add, zi_sub, zi_mul, zi_neg, zi_and1, zi_and7, zi_and15, zi_and31, zi_and255]) ?_
          have hL : eeL a = (if a < 1 then 0 else if a < 2 then 1 else if a < 4 then 2 else if a < 8 then 3 else if a < 16 then 4 else if a < 32 then 5 else if a < 64 then 6 else if a < 128 then 7 else if a < 256 then 8 else if a < 512 then 9 else if a < 1024 then 10 else if a < 2048 then 11 else if a < 4096 then 12 else 13) := rfl
          exact gz_end (I := .ireturn) (len := 1) rfl (Or.inl rfl) ⟨hS, ((31 + (-8)) + (-2)) - (((a / 256) / 4) / 2), rfl, (by omega), (by omega), (by omega)⟩
      · refine gy_icF rfl (by decide) (by decide) (by omega) (by omega) hc6 ?_
        refine gy_s 3 (pc' := 59) (L' := [some (.int (zi (a / 256))), some (.int ((zi (31 + (-8))) + zi (-4)))]) (S' := [.int (zi 4), .int (zi (a / 256))]) (L2 := [some (.int (zi (a / 256))), some (.int (zi ((31 + (-8)) + (-4))))]) (S2 := [.int (zi 4), .int (zi (a / 256))]) rfl (by simp only [zi_add, zi_sub, zi_mul, zi_neg, zi_and1, zi_and7, zi_and15, zi_and31, zi_and255]) (by simp only [zi_add, zi_sub, zi_mul, zi_neg, zi_and1, zi_and7, zi_and15, zi_and31, zi_and255]) ?_
        refine gy_ushc (n := 4) (v := 16) rfl (by decide) (by omega) rfl (by decide) (by decide) ?_
        refine gz_s 3 (pc' := 63) (L' := [some (.int (zi ((a / 256) / 16))), some (.int (zi ((31 + (-8)) + (-4))))]) (S' := [.int (zi 4), .int (zi ((a / 256) / 16))]) rfl ?_
        refine gy_icT (pc' := 73) rfl (by decide) (by decide) ⟨by omega, by omega⟩ ⟨by omega, by omega⟩ (by first | (simp [zc]; done) | (simp only [zc]; omega)) ?_
        refine gz_s 3 (pc' := 76) (L' := [some (.int (zi ((a / 256) / 16))), some (.int (zi ((31 + (-8)) + (-4))))]) (S' := [.int (zi 1), .int (zi ((a / 256) / 16)), .int (zi ((31 + (-8)) + (-4)))]) rfl ?_
        refine gy_ushc (n := 1) (v := 2) rfl (by decide) (by omega) rfl (by decide) (by decide) ?_
        refine gy_s 1 (pc' := 78) (L' := [some (.int (zi ((a / 256) / 16))), some (.int (zi ((31 + (-8)) + (-4))))]) (S' := [.int ((zi ((31 + (-8)) + (-4))) - (zi (((a / 256) / 16) / 2)))]) (L2 := [some (.int (zi ((a / 256) / 16))), some (.int (zi ((31 + (-8)) + (-4))))]) (S2 := [.int (zi (((31 + (-8)) + (-4)) - (((a / 256) / 16) / 2)))]) rfl (by simp only [zi_add, zi_sub, zi_mul, zi_neg, zi_and1, zi_and7, zi_and15, zi_and31, zi_and255]) (by simp only [zi_add, zi_sub, zi_mul, zi_neg, zi_and1, zi_and7, zi_and15, zi_and31, zi_and255]) ?_
        have hL : eeL a = (if a < 1 then 0 else if a < 2 then 1 else if a < 4 then 2 else if a < 8 then 3 else if a < 16 then 4 else if a < 32 then 5 else if a < 64 then 6 else if a < 128 then 7 else if a < 256 then 8 else if a < 512 then 9 else if a < 1024 then 10 else if a < 2048 then 11 else if a < 4096 then 12 else 13) := rfl
        exact gz_end (I := .ireturn) (len := 1) rfl (Or.inl rfl) ⟨hS, ((31 + (-8)) + (-4)) - (((a / 256) / 16) / 2), rfl, (by omega), (by omega), (by omega)⟩
  · refine gy_ifF rfl (by decide) (by decide) (by omega) hc1 ?_
    refine gz_s 1 (pc' := 5) (L' := [some (.int (zi a)), none]) (S' := [.int (zi a)]) rfl ?_
    refine gy_ifF rfl (by decide) (by decide) ⟨by omega, by omega⟩ (by first | (simp [zc]; done) | (simp only [zc]; omega)) ?_
    refine gz_s 2 (pc' := 14) (L' := [some (.int (zi a)), none]) (S' := [.int (zi 32)]) rfl ?_
    have hL : eeL a = (if a < 1 then 0 else if a < 2 then 1 else if a < 4 then 2 else if a < 8 then 3 else if a < 16 then 4 else if a < 32 then 5 else if a < 64 then 6 else if a < 128 then 7 else if a < 256 then 8 else if a < 512 then 9 else if a < 1024 then 10 else if a < 2048 then 11 else if a < 4096 then 12 else 13) := rfl
    exact gz_end (I := .ireturn) (len := 1) rfl (Or.inl rfl) ⟨hS, 32, rfl, (by omega), (by omega), (by omega)⟩
set_option maxRecDepth 20000 in
set_option maxHeartbeats 4000000 in
theorem cw_bitsOf (d : Nat) {ty : Nat → Nat} {h : gH} (hJ : gJ rT 1027 ty h) (v : Int) (rv : (-4096) ≤ v ∧ v ≤ 4096) (uq : gUq ty) : gz gPP gGG gcn (d + 1) gt112 0 (gent [.int (zi v)] 1) [] h (fun q _ => gSs rT 1027 ty [] h q.2.2 ∧ ∃ z : Int, gfin gt112 q.1 q.2.1 = some (some (.int (zi z))) ∧ 0 ≤ z ∧ z ≤ 13 ∧ (z = eeL (eeA v))) := by
  have hS : gSs rT 1027 ty [] h h := gSs.rf hJ
  refine gz_s 2 (pc' := 3) (L' := [some (.int (zi v))]) (S' := [.int (zi v), .int (zi 32)]) rfl ?_
  refine gz_call rfl (by decide) rfl (by decide) (by decide) (gcal_of rfl rfl rfl (Nat.le_of_ble_eq_true rfl) rfl) (cl_Math_abs _ hS.1 v ⟨by omega, by omega⟩ ) (fun q1 _ wq1 => ?_)
  obtain ⟨pq1, oq1, hq1⟩ := q1
  obtain ⟨xq1, zq1, gq1, aq1, bq1, uq1_0, uq1_1⟩ := wq1
  refine ⟨_, gq1, ?_⟩
  show gz gPP gGG gcn _ _ 6 [some (.int (zi v))] [.int (zi zq1), .int (zi 32)] hq1 _
  have sq1 : gSs rT 1027 ty [] h hq1 := gSs.tr hS xq1 (by decide)
  refine gz_call rfl (by decide) rfl (by decide) (by decide) (gcal_of rfl rfl rfl (Nat.le_of_ble_eq_true rfl) rfl) (cw_nlz _ sq1.1 zq1 ⟨by omega, by omega⟩ ) (fun q2 _ wq2 => ?_)
  obtain ⟨pq2, oq2, hq2⟩ := q2
  obtain ⟨xq2, zq2, gq2, aq2, bq2, uq2_0⟩ := wq2
  refine ⟨_, gq2, ?_⟩
  show gz gPP gGG gcn _ _ 9 [some (.int (zi v))] [.int (zi zq2), .int (zi 32)] hq2 _
  have sq2 : gSs rT 1027 ty [] h hq2 := gSs.tr sq1 xq2 (by decide)
  have hA : zq1 = eeA v := eeA_of (by omega) (by omega)
  rw [hA] at uq2_0
  have hlb := eeL_b (eeA v)
  refine gy_s 1 (pc' := 10) (L' := [some (.int (zi v))]) (S' := [.int ((zi 32) - (zi zq2))]) (L2 := [some (.int (zi v))]) (S2 := [.int (zi (32 - zq2))]) rfl (by simp only [zi_add, zi_sub, zi_mul, zi_neg, zi_and1, zi_and7, zi_and15, zi_and31, zi_and255]) (by simp only [zi_add, zi_sub, zi_mul, zi_neg, zi_and1, zi_and7, zi_and15, zi_and31, zi_and255]) ?_
  exact gz_end (I := .ireturn) (len := 1) rfl (Or.inl rfl) ⟨sq2, 32 - zq2, rfl, (by omega), (by omega), (by omega)⟩
set_option maxRecDepth 20000 in
set_option maxHeartbeats 4000000 in
theorem cn_putSymbol0 (d : Nat) {ty : Nat → Nat} {h : gH} (hJ : gJ rT 1027 ty h) (x : Nat) (tx : ty x = 71) (kd : Int) (rkd : 0 ≤ kd ∧ kd ≤ 0) (s : Int) (rs : 0 ≤ s ∧ s ≤ 255) (cg : Int) (ecg : h.2.2.2.2 x 11 = .int (zi cg)) (rcg : 1 ≤ cg ∧ cg ≤ 1) (w : Nat → Int) (uq : gUq ty) (hyf97 : gRn 257 ty 97 w h) (hywb : ewB w 90000) : gz gPP gGG gcn (d + 1) gt115 0 (gent [.ref x, .int (zi kd), .int (zi s)] 4) [] h (fun q _ => gSs rT 1027 ty [97999] h q.2.2 ∧ gfin gt115 q.1 q.2.1 = some none ∧ (gRn 257 ty 97 (ecS s w) q.2.2)) := by
  have hS : gSs rT 1027 ty [97999] h h := gSs.rf hJ
  refine gz_s 1 (pc' := 1) (L' := [some (.ref x), some (.int (zi kd)), some (.int (zi s)), none]) (S' := [.ref x]) rfl ?_
  refine gs_gtr rfl (by decide) rfl hS.1 tx rfl rfl rfl (fun c1 ec1 tc1 => ?_)
  refine gz_s 1 (pc' := 5) (L' := [some (.ref x), some (.int (zi kd)), some (.int (zi s)), none]) (S' := [.int (zi kd), .ref c1]) rfl ?_
  have he4 : (kd : Int) = 0 := by omega
  refine gs_aal (j := 0) (q2 := 91) rfl (by decide) hS.1 tc1 rfl rfl rfl (by decide) he4 rfl (by decide) (fun c5 ec5 tc5 => ?_)
  refine gz_s 2 (pc' := 8) (L' := [some (.ref x), some (.int (zi kd)), some (.int (zi s)), some (.ref c5)]) (S' := [.ref x]) rfl ?_
  refine gs_gtk rfl (by decide) rfl hS.1 tx rfl rfl ecg ?_
  refine gy_ifF rfl (by decide) (by decide) ⟨by omega, by omega⟩ (by first | (simp [zc]; done) | (simp only [zc]; omega)) ?_
  refine gz_s 2 (pc' := 16) (L' := [some (.ref x), some (.int (zi kd)), some (.int (zi s)), some (.ref c5)]) (S' := [.int (zi s), .ref c5]) rfl ?_
  refine gz_call rfl (by decide) rfl (by decide) (by decide) (gcal_of rfl rfl rfl (Nat.le_of_ble_eq_true rfl) (gJ.recv (G := gGG) hS.1 tc5 rfl rfl)) (cw_Suited0_countSymbol _ hS.1 c5 tc5 s ⟨by omega, by omega⟩ w uq hyf97 hywb) (fun q6 _ wq6 => ?_)
  obtain ⟨pq6, oq6, hq6⟩ := q6
  obtain ⟨xq6, gq6, yq6_0⟩ := wq6
  refine ⟨_, gq6, ?_⟩
  show gz gPP gGG gcn _ _ 19 [some (.ref x), some (.int (zi kd)), some (.int (zi s)), some (.ref c5)] [] hq6 _
  have sq6 : gSs rT 1027 ty [97999] h hq6 := gSs.tr hS xq6 (by decide)
  have s7 := (xq6.2.2.2.2.2 x 11 (by rw [tx]; decide)).trans ecg
  have s8 := (xq6.2.2.2.2.2 x 4 (by rw [tx]; decide)).trans ec1
  have s9 := (xq6.2.2.2.2.2 c1 0 (by rw [tc1]; decide)).trans ec5
  refine gz_s 1 (pc' := 41) (L' := [some (.ref x), some (.int (zi kd)), some (.int (zi s)), some (.ref c5)]) (S' := []) rfl ?_
  exact gz_end (I := .return_) (len := 1) rfl (Or.inl rfl) ⟨sq6, rfl, yq6_0⟩
set_option maxRecDepth 20000 in
set_option maxHeartbeats 4000000 in
theorem cw_putSymbol0 (d : Nat) {ty : Nat → Nat} {h : gH} (hJ : gJ rT 1027 ty h) (x : Nat) (tx : ty x = 71) (kd : Int) (rkd : 0 ≤ kd ∧ kd ≤ 0) (s : Int) (rs : 0 ≤ s ∧ s ≤ 255) (sk : Nat) (esk : h.2.2.2.2 x 0 = .ref sk) (tsk : ty sk = 56) (bt : Nat) (ebt : h.2.2.2.2 sk 0 = .ref bt) (tbt : ty bt = 114) (c0 : Int) (ec0 : h.2.2.2.2 sk 1 = .int (zi c0)) (rc0 : 0 ≤ c0 ∧ c0 ≤ 499999) (u0 : Int) (eu0 : h.2.2.2.2 sk 2 = .int (zi u0)) (ru0 : 0 ≤ u0 ∧ u0 ≤ 127) (h0 : Int) (eh0 : h.2.2.2.2 sk 3 = .int (zi h0)) (rh0 : 0 ≤ h0 ∧ h0 ≤ 7) (cg : Int) (ecg : h.2.2.2.2 x 11 = .int (zi cg)) (rcg : 0 ≤ cg ∧ cg ≤ 0) (sg : gWt) (ec96 : Nat → Int × Int) (pp0 : c0 = sg.1) (pp1 : u0 = sg.2.1) (pp2 : h0 = sg.2.2.1) (pp3 : 4 * c0 + h0 + 300 ≤ 1999990) (pp4 : c0 ≤ (h.2.2.2.1 bt : Int)) (uq : gUq ty) (hysw : gSW ty bt sg h) (hyok : eeOk sg) (hytb96 : gTab (True) ty 95 96 ec96 h) : gz gPP gGG gcn (d + 4) gt115 0 (gent [.ref x, .int (zi kd), .int (zi s)] 4) [] h (fun q _ => ∃ ty9 : Nat → Nat, gSg [114] [] [56000, 56001, 56002, 56003, 114999] ty h ty9 q.2.2 ∧ ∃ bt2 : Nat, True ∧ ∃ c1 u1 h1 : Int, q.2.2.2.2.2.2 sk 0 = .ref bt2 ∧ ty9 bt2 = 114 ∧ gfin gt115 q.1 q.2.1 = some none ∧ q.2.2.2.2.2.2 sk 1 = .int (zi c1) ∧ 0 ≤ c1 ∧ c1 ≤ 500000 ∧ q.2.2.2.2.2.2 sk 2 = .int (zi u1) ∧ 0 ≤ u1 ∧ u1 ≤ 127 ∧ q.2.2.2.2.2.2 sk 3 = .int (zi h1) ∧ 0 ≤ h1 ∧ h1 ≤ 7 ∧ (c1 = (ewS ec96 s sg).1) ∧ (u1 = (ewS ec96 s sg).2.1) ∧ (h1 = (ewS ec96 s sg).2.2.1) ∧ (4 * c1 + h1 ≤ 4 * c0 + h0 + 300) ∧ (c0 ≤ c1) ∧ (1024 * ((q.2.2.1 : Int) - h.1) ≤ (q.2.2.2.2.2.1 bt2 : Int) - h.2.2.2.1 bt) ∧ (((q.2.2.2.1 : Int) - h.2.1) ≤ 2 * ((q.2.2.2.2.2.1 bt2 : Int) - h.2.2.2.1 bt)) ∧ ((h.2.2.2.1 bt : Int) ≤ (q.2.2.2.2.2.1 bt2 : Int)) ∧ (c1 ≤ (q.2.2.2.2.2.1 bt2 : Int)) ∧ (gSW ty9 bt2 (ewS ec96 s sg) q.2.2) ∧ (eeOk (ewS ec96 s sg))) := by
  have hS : gSs rT 1027 ty [56000, 56001, 56002, 56003, 114999] h h := gSs.rf hJ
  have G0 : gSg [114] [] [56000, 56001, 56002, 56003, 114999] ty h ty h := gSg.rf hJ (fun x hx => by cases hx)
  refine gz_s 1 (pc' := 1) (L' := [some (.ref x), some (.int (zi kd)), some (.int (zi s)), none]) (S' := [.ref x]) rfl ?_
  refine gs_gtr rfl (by decide) rfl hS.1 tx rfl rfl rfl (fun c1 ec1 tc1 => ?_)
  refine gz_s 1 (pc' := 5) (L' := [some (.ref x), some (.int (zi kd)), some (.int (zi s)), none]) (S' := [.int (zi kd), .ref c1]) rfl ?_
  have he4 : (kd : Int) = 0 := by omega
  refine gs_aal (j := 0) (q2 := 91) rfl (by decide) hS.1 tc1 rfl rfl rfl (by decide) he4 rfl (by decide) (fun c5 ec5 tc5 => ?_)
  refine gz_s 2 (pc' := 8) (L' := [some (.ref x), some (.int (zi kd)), some (.int (zi s)), some (.ref c5)]) (S' := [.ref x]) rfl ?_
  refine gs_gtk rfl (by decide) rfl hS.1 tx rfl rfl ecg ?_
  refine gy_ifT (pc' := 22) rfl (by decide) (by decide) ⟨by omega, by omega⟩ (by first | (simp [zc]; done) | (simp only [zc]; omega)) ?_
  refine gz_s 1 (pc' := 23) (L' := [some (.ref x), some (.int (zi kd)), some (.int (zi s)), some (.ref c5)]) (S' := [.ref x]) rfl ?_
  refine gs_gtk rfl (by decide) rfl hS.1 tx rfl rfl esk ?_
  refine gz_s 1 (pc' := 27) (L' := [some (.ref x), some (.int (zi kd)), some (.int (zi s)), some (.ref c5)]) (S' := [.ref c5, .ref sk]) rfl ?_
  refine gs_gtr rfl (by decide) rfl hS.1 tc5 rfl rfl rfl (fun c6 ec6 tc6 => ?_)
  refine gz_s 1 (pc' := 31) (L' := [some (.ref x), some (.int (zi kd)), some (.int (zi s)), some (.ref c5)]) (S' := [.int (zi s), .ref c6, .ref sk]) rfl ?_
  have hl7 : 257 ≤ h.2.2.2.1 c6 ∧ h.2.2.2.1 c6 ≤ 257 := gJ.rowl (G := gGG) hS.1 tc6 rfl
  refine gs_ald rfl (by decide) hS.1 tc6 rfl rfl rfl (by decide) (fun _ => rfl) (by omega) (by omega) (fun z8 ez8 az8 bz8 => ?_)
  refine gz_s 1 (pc' := 33) (L' := [some (.ref x), some (.int (zi kd)), some (.int (zi s)), some (.ref c5)]) (S' := [.ref c5, .int (zi z8), .ref sk]) rfl ?_
  refine gs_gtr rfl (by decide) rfl hS.1 tc5 rfl rfl rfl (fun c9 ec9 tc9 => ?_)
  refine gz_s 1 (pc' := 37) (L' := [some (.ref x), some (.int (zi kd)), some (.int (zi s)), some (.ref c5)]) (S' := [.int (zi s), .ref c9, .int (zi z8), .ref sk]) rfl ?_
  have hl10 : 257 ≤ h.2.2.2.1 c9 ∧ h.2.2.2.1 c9 ≤ 257 := gJ.rowl (G := gGG) hS.1 tc9 rfl
  refine gs_ald rfl (by decide) hS.1 tc9 rfl rfl rfl (by decide) (fun _ => rfl) (by omega) (by omega) (fun z11 ez11 az11 bz11 => ?_)
  obtain ⟨hzl, hzr, hzp⟩ := gTab.put (s := s) hytb96 trivial ⟨by omega, by omega⟩ tc6 tc9 ez8 ez11 ⟨by omega, by omega⟩ ⟨by omega, by omega⟩ sg
  have hl12 : h.2.2.2.1 bt = h.2.2.2.1 bt := congrFun hS.2.2.2.2.1 bt
  refine gz_call rfl (by decide) rfl (by decide) (by decide) (gcal_of rfl rfl rfl (Nat.le_of_ble_eq_true rfl) (gJ.recv (G := gGG) hS.1 tsk rfl rfl)) (cw_putBits _ hS.1 sk tsk z8 ⟨by omega, by omega⟩ z11 ⟨by omega, by omega⟩ bt ebt tbt c0 ec0 ⟨by omega, by omega⟩ u0 eu0 ⟨by omega, by omega⟩ h0 eh0 ⟨by omega, by omega⟩ sg (by omega) (by omega) (by omega) (by omega) (by omega) uq hysw hyok) (fun q13 _ wq13 => ?_)
  obtain ⟨pq13, oq13, hq13⟩ := q13
  obtain ⟨tyq13, xq13, cq13_0, ttq13, fq13_0, fq13_1, fq13_2, ecq13_0, tcq13_0, gq13, efq13_0, afq13_0, bfq13_0, efq13_1, afq13_1, bfq13_1, efq13_2, afq13_2, bfq13_2, uq13_0, uq13_1, uq13_2, uq13_3, uq13_4, uq13_5, uq13_6, uq13_7, uq13_8, yq13_0, yq13_1⟩ := wq13
  dsimp only at uq13_5 uq13_6 uq13_7 uq13_8
  refine ⟨_, gq13, ?_⟩
  show gz gPP gGG gcn _ _ 41 [some (.ref x), some (.int (zi kd)), some (.int (zi s)), some (.ref c5)] [] hq13 _
  have G14 : gSg [114] [] [56000, 56001, 56002, 56003, 114999] ty h tyq13 hq13 := gSg.tr (gSg.ss G0 hS (by decide)) xq13 (by decide) (by decide) (fun x hx => by cases hx)
  have t15 : tyq13 x = 71 := gSg.typ xq13 hS.1 tx rfl
  have t16 : tyq13 sk = 56 := gSg.typ xq13 hS.1 tsk rfl
  have t17 : tyq13 bt = 114 := gSg.typ xq13 hS.1 tbt rfl
  have hl18 : hq13.2.2.2.1 bt = h.2.2.2.1 bt := gSg.len xq13 hS.1 tbt rfl
  have t19 : tyq13 c1 = 75 := gSg.typ xq13 hS.1 tc1 rfl
  have t20 : tyq13 c5 = 91 := gSg.typ xq13 hS.1 tc5 rfl
  have t21 : tyq13 c6 = 95 := gSg.typ xq13 hS.1 tc6 rfl
  have t22 : tyq13 c9 = 96 := gSg.typ xq13 hS.1 tc9 rfl
  have s23 := gSg.at xq13 hS.1 tx rfl (by decide) esk
  have s24 := gSg.at xq13 hS.1 tx rfl (by decide) ecg
  have s25 := gSg.at xq13 hS.1 tx rfl (by decide) ec1
  have s26 := gSg.at xq13 hS.1 tc1 rfl (by decide) ec5
  have s27 := gSg.at xq13 hS.1 tc5 rfl (by decide) ec6
  have s28 := gSg.at xq13 hS.1 tc5 rfl (by decide) ec9
  have pr29 := gTab.gr xq13 hS.1 rfl rfl (fun _ => rfl) (fun _ => rfl) (by decide) (by decide) (by decide) (by decide) hytb96
  have uq30 := gSg.uq xq13 uq (by decide)
  have sS31 : gSs rT 1027 tyq13 [56000, 56001, 56002, 56003, 114999] hq13 hq13 := gSs.rf xq13.1
  have hk32 : ewS ec96 s sg = eeN z8 (Int.toNat z11) sg := by unfold ewS; exact hzp.symm
  have hk32_1 : (ewS ec96 s sg).1 = (eeN z8 (Int.toNat z11) sg).1 := by rw [hk32]
  have hk32_21 : (ewS ec96 s sg).2.1 = (eeN z8 (Int.toNat z11) sg).2.1 := by rw [hk32]
  have hk32_221 : (ewS ec96 s sg).2.2.1 = (eeN z8 (Int.toNat z11) sg).2.2.1 := by rw [hk32]
  have hsw33 : gSW tyq13 cq13_0 (ewS ec96 s sg) hq13 := by rw [hk32]; exact yq13_0
  have hok34 : eeOk (ewS ec96 s sg) := by rw [hk32]; exact yq13_1
  have hoc35 := hok34.cur
  have hl36 : 1024 ≤ hq13.2.2.2.1 bt ∧ hq13.2.2.2.1 bt ≤ 1000000 := gJ.rowl (G := gGG) sS31.1 t17 rfl
  have hl37 : 1024 ≤ hq13.2.2.2.1 cq13_0 ∧ hq13.2.2.2.1 cq13_0 ≤ 1000000 := gJ.rowl (G := gGG) sS31.1 tcq13_0 rfl
  have G38 : gSg [114] [] [56000, 56001, 56002, 56003, 114999] ty h tyq13 hq13 := gSg.ss G14 sS31 (by decide)
  exact gz_end (I := .return_) (len := 1) rfl (Or.inl rfl) ⟨tyq13, G38, cq13_0, trivial, fq13_0, fq13_1, fq13_2, ecq13_0, tcq13_0, rfl, efq13_0, (by omega), (by omega), efq13_1, (by omega), (by omega), efq13_2, (by omega), (by omega), (by omega), (by omega), (by omega), (by omega), (by omega), (by dsimp only; omega), (by dsimp only; omega), (by dsimp only; omega), (by dsimp only; omega), hsw33, hok34⟩
set_option maxRecDepth 20000 in
set_option maxHeartbeats 4000000 in
theorem cn_putSymbol1 (d : Nat) {ty : Nat → Nat} {h : gH} (hJ : gJ rT 1027 ty h) (x : Nat) (tx : ty x = 71) (kd : Int) (rkd : 1 ≤ kd ∧ kd ≤ 1) (s : Int) (rs : 0 ≤ s ∧ s ≤ 255) (cg : Int) (ecg : h.2.2.2.2 x 11 = .int (zi cg)) (rcg : 1 ≤ cg ∧ cg ≤ 1) (w : Nat → Int) (uq : gUq ty) (hyf80 : gRn 257 ty 80 w h) (hywb : ewB w 90000) : gz gPP gGG gcn (d + 1) gt115 0 (gent [.ref x, .int (zi kd), .int (zi s)] 4) [] h (fun q _ => gSs rT 1027 ty [80999] h q.2.2 ∧ gfin gt115 q.1 q.2.1 = some none ∧ (gRn 257 ty 80 (ecS s w) q.2.2)) := by
  have hS : gSs rT 1027 ty [80999] h h := gSs.rf hJ
  refine gz_s 1 (pc' := 1) (L' := [some (.ref x), some (.int (zi kd)), some (.int (zi s)), none]) (S' := [.ref x]) rfl ?_
  refine gs_gtr rfl (by decide) rfl hS.1 tx rfl rfl rfl (fun c1 ec1 tc1 => ?_)
  refine gz_s 1 (pc' := 5) (L' := [some (.ref x), some (.int (zi kd)), some (.int (zi s)), none]) (S' := [.int (zi kd), .ref c1]) rfl ?_
  have he4 : (kd : Int) = 1 := by omega
  refine gs_aal (j := 1) (q2 := 92) rfl (by decide) hS.1 tc1 rfl rfl rfl (by decide) he4 rfl (by decide) (fun c5 ec5 tc5 => ?_)
  refine gz_s 2 (pc' := 8) (L' := [some (.ref x), some (.int (zi kd)), some (.int (zi s)), some (.ref c5)]) (S' := [.ref x]) rfl ?_
  refine gs_gtk rfl (by decide) rfl hS.1 tx rfl rfl ecg ?_
  refine gy_ifF rfl (by decide) (by decide) ⟨by omega, by omega⟩ (by first | (simp [zc]; done) | (simp only [zc]; omega)) ?_
  refine gz_s 2 (pc' := 16) (L' := [some (.ref x), some (.int (zi kd)), some (.int (zi s)), some (.ref c5)]) (S' := [.int (zi s), .ref c5]) rfl ?_
  refine gz_call rfl (by decide) rfl (by decide) (by decide) (gcal_of rfl rfl rfl (Nat.le_of_ble_eq_true rfl) (gJ.recv (G := gGG) hS.1 tc5 rfl rfl)) (cw_Suited1_countSymbol _ hS.1 c5 tc5 s ⟨by omega, by omega⟩ w uq hyf80 hywb) (fun q6 _ wq6 => ?_)
  obtain ⟨pq6, oq6, hq6⟩ := q6
  obtain ⟨xq6, gq6, yq6_0⟩ := wq6
  refine ⟨_, gq6, ?_⟩
  show gz gPP gGG gcn _ _ 19 [some (.ref x), some (.int (zi kd)), some (.int (zi s)), some (.ref c5)] [] hq6 _
  have sq6 : gSs rT 1027 ty [80999] h hq6 := gSs.tr hS xq6 (by decide)
  have s7 := (xq6.2.2.2.2.2 x 11 (by rw [tx]; decide)).trans ecg
  have s8 := (xq6.2.2.2.2.2 x 4 (by rw [tx]; decide)).trans ec1
  have s9 := (xq6.2.2.2.2.2 c1 1 (by rw [tc1]; decide)).trans ec5
  refine gz_s 1 (pc' := 41) (L' := [some (.ref x), some (.int (zi kd)), some (.int (zi s)), some (.ref c5)]) (S' := []) rfl ?_
  exact gz_end (I := .return_) (len := 1) rfl (Or.inl rfl) ⟨sq6, rfl, yq6_0⟩
set_option maxRecDepth 20000 in
set_option maxHeartbeats 4000000 in
theorem cw_putSymbol1 (d : Nat) {ty : Nat → Nat} {h : gH} (hJ : gJ rT 1027 ty h) (x : Nat) (tx : ty x = 71) (kd : Int) (rkd : 1 ≤ kd ∧ kd ≤ 1) (s : Int) (rs : 0 ≤ s ∧ s ≤ 255) (sk : Nat) (esk : h.2.2.2.2 x 0 = .ref sk) (tsk : ty sk = 56) (bt : Nat) (ebt : h.2.2.2.2 sk 0 = .ref bt) (tbt : ty bt = 114) (c0 : Int) (ec0 : h.2.2.2.2 sk 1 = .int (zi c0)) (rc0 : 0 ≤ c0 ∧ c0 ≤ 499999) (u0 : Int) (eu0 : h.2.2.2.2 sk 2 = .int (zi u0)) (ru0 : 0 ≤ u0 ∧ u0 ≤ 127) (h0 : Int) (eh0 : h.2.2.2.2 sk 3 = .int (zi h0)) (rh0 : 0 ≤ h0 ∧ h0 ≤ 7) (cg : Int) (ecg : h.2.2.2.2 x 11 = .int (zi cg)) (rcg : 0 ≤ cg ∧ cg ≤ 0) (sg : gWt) (ec79 : Nat → Int × Int) (pp0 : c0 = sg.1) (pp1 : u0 = sg.2.1) (pp2 : h0 = sg.2.2.1) (pp3 : 4 * c0 + h0 + 300 ≤ 1999990) (pp4 : c0 ≤ (h.2.2.2.1 bt : Int)) (uq : gUq ty) (hysw : gSW ty bt sg h) (hyok : eeOk sg) (hytb79 : gTab (True) ty 78 79 ec79 h) : gz gPP gGG gcn (d + 4) gt115 0 (gent [.ref x, .int (zi kd), .int (zi s)] 4) [] h (fun q _ => ∃ ty9 : Nat → Nat, gSg [114] [] [56000, 56001, 56002, 56003, 114999] ty h ty9 q.2.2 ∧ ∃ bt2 : Nat, True ∧ ∃ c1 u1 h1 : Int, q.2.2.2.2.2.2 sk 0 = .ref bt2 ∧ ty9 bt2 = 114 ∧ gfin gt115 q.1 q.2.1 = some none ∧ q.2.2.2.2.2.2 sk 1 = .int (zi c1) ∧ 0 ≤ c1 ∧ c1 ≤ 500000 ∧ q.2.2.2.2.2.2 sk 2 = .int (zi u1) ∧ 0 ≤ u1 ∧ u1 ≤ 127 ∧ q.2.2.2.2.2.2 sk 3 = .int (zi h1) ∧ 0 ≤ h1 ∧ h1 ≤ 7 ∧ (c1 = (ewS ec79 s sg).1) ∧ (u1 = (ewS ec79 s sg).2.1) ∧ (h1 = (ewS ec79 s sg).2.2.1) ∧ (4 * c1 + h1 ≤ 4 * c0 + h0 + 300) ∧ (c0 ≤ c1) ∧ (1024 * ((q.2.2.1 : Int) - h.1) ≤ (q.2.2.2.2.2.1 bt2 : Int) - h.2.2.2.1 bt) ∧ (((q.2.2.2.1 : Int) - h.2.1) ≤ 2 * ((q.2.2.2.2.2.1 bt2 : Int) - h.2.2.2.1 bt)) ∧ ((h.2.2.2.1 bt : Int) ≤ (q.2.2.2.2.2.1 bt2 : Int)) ∧ (c1 ≤ (q.2.2.2.2.2.1 bt2 : Int)) ∧ (gSW ty9 bt2 (ewS ec79 s sg) q.2.2) ∧ (eeOk (ewS ec79 s sg))) := by
  have hS : gSs rT 1027 ty [56000, 56001, 56002, 56003, 114999] h h := gSs.rf hJ
  have G0 : gSg [114] [] [56000, 56001, 56002, 56003, 114999] ty h ty h := gSg.rf hJ (fun x hx => by cases hx)
  refine gz_s 1 (pc' := 1) (L' := [some (.ref x), some (.int (zi kd)), some (.int (zi s)), none]) (S' := [.ref x]) rfl ?_
  refine gs_gtr rfl (by decide) rfl hS.1 tx rfl rfl rfl (fun c1 ec1 tc1 => ?_)
  refine gz_s 1 (pc' := 5) (L' := [some (.ref x), some (.int (zi kd)), some (.int (zi s)), none]) (S' := [.int (zi kd), .ref c1]) rfl ?_
  have he4 : (kd : Int) = 1 := by omega
  refine gs_aal (j := 1) (q2 := 92) rfl (by decide) hS.1 tc1 rfl rfl rfl (by decide) he4 rfl (by decide) (fun c5 ec5 tc5 => ?_)
  refine gz_s 2 (pc' := 8) (L' := [some (.ref x), some (.int (zi kd)), some (.int (zi s)), some (.ref c5)]) (S' := [.ref x]) rfl ?_
  refine gs_gtk rfl (by decide) rfl hS.1 tx rfl rfl ecg ?_
  refine gy_ifT (pc' := 22) rfl (by decide) (by decide) ⟨by omega, by omega⟩ (by first | (simp [zc]; done) | (simp only [zc]; omega)) ?_
  refine gz_s 1 (pc' := 23) (L' := [some (.ref x), some (.int (zi kd)), some (.int (zi s)), some (.ref c5)]) (S' := [.ref x]) rfl ?_
  refine gs_gtk rfl (by decide) rfl hS.1 tx rfl rfl esk ?_
  refine gz_s 1 (pc' := 27) (L' := [some (.ref x), some (.int (zi kd)), some (.int (zi s)), some (.ref c5)]) (S' := [.ref c5, .ref sk]) rfl ?_
  refine gs_gtr rfl (by decide) rfl hS.1 tc5 rfl rfl rfl (fun c6 ec6 tc6 => ?_)
  refine gz_s 1 (pc' := 31) (L' := [some (.ref x), some (.int (zi kd)), some (.int (zi s)), some (.ref c5)]) (S' := [.int (zi s), .ref c6, .ref sk]) rfl ?_
  have hl7 : 257 ≤ h.2.2.2.1 c6 ∧ h.2.2.2.1 c6 ≤ 257 := gJ.rowl (G := gGG) hS.1 tc6 rfl
  refine gs_ald rfl (by decide) hS.1 tc6 rfl rfl rfl (by decide) (fun _ => rfl) (by omega) (by omega) (fun z8 ez8 az8 bz8 => ?_)
  refine gz_s 1 (pc' := 33) (L' := [some (.ref x), some (.int (zi kd)), some (.int (zi s)), some (.ref c5)]) (S' := [.ref c5, .int (zi z8), .ref sk]) rfl ?_
  refine gs_gtr rfl (by decide) rfl hS.1 tc5 rfl rfl rfl (fun c9 ec9 tc9 => ?_)
  refine gz_s 1 (pc' := 37) (L' := [some (.ref x), some (.int (zi kd)), some (.int (zi s)), some (.ref c5)]) (S' := [.int (zi s), .ref c9, .int (zi z8), .ref sk]) rfl ?_
  have hl10 : 257 ≤ h.2.2.2.1 c9 ∧ h.2.2.2.1 c9 ≤ 257 := gJ.rowl (G := gGG) hS.1 tc9 rfl
  refine gs_ald rfl (by decide) hS.1 tc9 rfl rfl rfl (by decide) (fun _ => rfl) (by omega) (by omega) (fun z11 ez11 az11 bz11 => ?_)
  obtain ⟨hzl, hzr, hzp⟩ := gTab.put (s := s) hytb79 trivial ⟨by omega, by omega⟩ tc6 tc9 ez8 ez11 ⟨by omega, by omega⟩ ⟨by omega, by omega⟩ sg
  have hl12 : h.2.2.2.1 bt = h.2.2.2.1 bt := congrFun hS.2.2.2.2.1 bt
  refine gz_call rfl (by decide) rfl (by decide) (by decide) (gcal_of rfl rfl rfl (Nat.le_of_ble_eq_true rfl) (gJ.recv (G := gGG) hS.1 tsk rfl rfl)) (cw_putBits _ hS.1 sk tsk z8 ⟨by omega, by omega⟩ z11 ⟨by omega, by omega⟩ bt ebt tbt c0 ec0 ⟨by omega, by omega⟩ u0 eu0 ⟨by omega, by omega⟩ h0 eh0 ⟨by omega, by omega⟩ sg (by omega) (by omega) (by omega) (by omega) (by omega) uq hysw hyok) (fun q13 _ wq13 => ?_)
  obtain ⟨pq13, oq13, hq13⟩ := q13
  obtain ⟨tyq13, xq13, cq13_0, ttq13, fq13_0, fq13_1, fq13_2, ecq13_0, tcq13_0, gq13, efq13_0, afq13_0, bfq13_0, efq13_1, afq13_1, bfq13_1, efq13_2, afq13_2, bfq13_2, uq13_0, uq13_1, uq13_2, uq13_3, uq13_4, uq13_5, uq13_6, uq13_7, uq13_8, yq13_0, yq13_1⟩ := wq13
  dsimp only at uq13_5 uq13_6 uq13_7 uq13_8
  refine ⟨_, gq13, ?_⟩
  show gz gPP gGG gcn _ _ 41 [some (.ref x), some (.int (zi kd)), some (.int (zi s)), some (.ref c5)] [] hq13 _
  have G14 : gSg [114] [] [56000, 56001, 56002, 56003, 114999] ty h tyq13 hq13 := gSg.tr (gSg.ss G0 hS (by decide)) xq13 (by decide) (by decide) (fun x hx => by cases hx)
  have t15 : tyq13 x = 71 := gSg.typ xq13 hS.1 tx rfl
  have t16 : tyq13 sk = 56 := gSg.typ xq13 hS.1 tsk rfl
  have t17 : tyq13 bt = 114 := gSg.typ xq13 hS.1 tbt rfl
  have hl18 : hq13.2.2.2.1 bt = h.2.2.2.1 bt := gSg.len xq13 hS.1 tbt rfl
  have t19 : tyq13 c1 = 75 := gSg.typ xq13 hS.1 tc1 rfl
  have t20 : tyq13 c5 = 92 := gSg.typ xq13 hS.1 tc5 rfl
  have t21 : tyq13 c6 = 78 := gSg.typ xq13 hS.1 tc6 rfl
  have t22 : tyq13 c9 = 79 := gSg.typ xq13 hS.1 tc9 rfl
  have s23 := gSg.at xq13 hS.1 tx rfl (by decide) esk
  have s24 := gSg.at xq13 hS.1 tx rfl (by decide) ecg
  have s25 := gSg.at xq13 hS.1 tx rfl (by decide) ec1
  have s26 := gSg.at xq13 hS.1 tc1 rfl (by decide) ec5
  have s27 := gSg.at xq13 hS.1 tc5 rfl (by decide) ec6
  have s28 := gSg.at xq13 hS.1 tc5 rfl (by decide) ec9
  have pr29 := gTab.gr xq13 hS.1 rfl rfl (fun _ => rfl) (fun _ => rfl) (by decide) (by decide) (by decide) (by decide) hytb79
  have uq30 := gSg.uq xq13 uq (by decide)
  have sS31 : gSs rT 1027 tyq13 [56000, 56001, 56002, 56003, 114999] hq13 hq13 := gSs.rf xq13.1
  have hk32 : ewS ec79 s sg = eeN z8 (Int.toNat z11) sg := by unfold ewS; exact hzp.symm
  have hk32_1 : (ewS ec79 s sg).1 = (eeN z8 (Int.toNat z11) sg).1 := by rw [hk32]
  have hk32_21 : (ewS ec79 s sg).2.1 = (eeN z8 (Int.toNat z11) sg).2.1 := by rw [hk32]
  have hk32_221 : (ewS ec79 s sg).2.2.1 = (eeN z8 (Int.toNat z11) sg).2.2.1 := by rw [hk32]
  have hsw33 : gSW tyq13 cq13_0 (ewS ec79 s sg) hq13 := by rw [hk32]; exact yq13_0
  have hok34 : eeOk (ewS ec79 s sg) := by rw [hk32]; exact yq13_1
  have hoc35 := hok34.cur
  have hl36 : 1024 ≤ hq13.2.2.2.1 bt ∧ hq13.2.2.2.1 bt ≤ 1000000 := gJ.rowl (G := gGG) sS31.1 t17 rfl
  have hl37 : 1024 ≤ hq13.2.2.2.1 cq13_0 ∧ hq13.2.2.2.1 cq13_0 ≤ 1000000 := gJ.rowl (G := gGG) sS31.1 tcq13_0 rfl
  have G38 : gSg [114] [] [56000, 56001, 56002, 56003, 114999] ty h tyq13 hq13 := gSg.ss G14 sS31 (by decide)
  exact gz_end (I := .return_) (len := 1) rfl (Or.inl rfl) ⟨tyq13, G38, cq13_0, trivial, fq13_0, fq13_1, fq13_2, ecq13_0, tcq13_0, rfl, efq13_0, (by omega), (by omega), efq13_1, (by omega), (by omega), efq13_2, (by omega), (by omega), (by omega), (by omega), (by omega), (by omega), (by omega), (by dsimp only; omega), (by dsimp only; omega), (by dsimp only; omega), (by dsimp only; omega), hsw33, hok34⟩
set_option maxRecDepth 20000 in
set_option maxHeartbeats 4000000 in
theorem cn_putPlain (d : Nat) {ty : Nat → Nat} {h : gH} (hJ : gJ rT 1027 ty h) (x : Nat) (tx : ty x = 71) (v : Int) (rv : (-2147483648) ≤ v ∧ v ≤ 2147483647) (n : Int) (rn : 0 ≤ n ∧ n ≤ 40) (cg : Int) (ecg : h.2.2.2.2 x 11 = .int (zi cg)) (rcg : 1 ≤ cg ∧ cg ≤ 1) (uq : gUq ty) : gz gPP gGG gcn (d + 0) gt111 0 (gent [.ref x, .int (zi v), .int (zi n)] 3) [] h (fun q _ => gSs rT 1027 ty [] h q.2.2 ∧ gfin gt111 q.1 q.2.1 = some none) := by
  have hS : gSs rT 1027 ty [] h h := gSs.rf hJ
  refine gz_s 1 (pc' := 1) (L' := [some (.ref x), some (.int (zi v)), some (.int (zi n))]) (S' := [.ref x]) rfl ?_
  refine gs_gtk rfl (by decide) rfl hS.1 tx rfl rfl ecg ?_
  refine gy_ifT (pc' := 16) rfl (by decide) (by decide) ⟨by omega, by omega⟩ (by first | (simp [zc]; done) | (simp only [zc]; omega)) ?_
  exact gz_end (I := .return_) (len := 1) rfl (Or.inl rfl) ⟨hS, rfl⟩
set_option maxRecDepth 20000 in
set_option maxHeartbeats 4000000 in
theorem cw_putPlain (d : Nat) {ty : Nat → Nat} {h : gH} (hJ : gJ rT 1027 ty h) (x : Nat) (tx : ty x = 71) (v : Int) (rv : (-2147483648) ≤ v ∧ v ≤ 2147483647) (n : Int) (rn : 0 ≤ n ∧ n ≤ 32) (sk : Nat) (esk : h.2.2.2.2 x 0 = .ref sk) (tsk : ty sk = 56) (bt : Nat) (ebt : h.2.2.2.2 sk 0 = .ref bt) (tbt : ty bt = 114) (c0 : Int) (ec0 : h.2.2.2.2 sk 1 = .int (zi c0)) (rc0 : 0 ≤ c0 ∧ c0 ≤ 499999) (u0 : Int) (eu0 : h.2.2.2.2 sk 2 = .int (zi u0)) (ru0 : 0 ≤ u0 ∧ u0 ≤ 127) (h0 : Int) (eh0 : h.2.2.2.2 sk 3 = .int (zi h0)) (rh0 : 0 ≤ h0 ∧ h0 ≤ 7) (cg : Int) (ecg : h.2.2.2.2 x 11 = .int (zi cg)) (rcg : 0 ≤ cg ∧ cg ≤ 0) (sg : gWt) (pp0 : c0 = sg.1) (pp1 : u0 = sg.2.1) (pp2 : h0 = sg.2.2.1) (pp3 : 4 * c0 + h0 + n ≤ 1999990) (pp4 : c0 ≤ (h.2.2.2.1 bt : Int)) (uq : gUq ty) (hysw : gSW ty bt sg h) (hyok : eeOk sg) : gz gPP gGG gcn (d + 4) gt111 0 (gent [.ref x, .int (zi v), .int (zi n)] 3) [] h (fun q _ => ∃ ty9 : Nat → Nat, gSg [114] [] [56000, 56001, 56002, 56003, 114999] ty h ty9 q.2.2 ∧ ∃ bt2 : Nat, True ∧ ∃ c1 u1 h1 : Int, q.2.2.2.2.2.2 sk 0 = .ref bt2 ∧ ty9 bt2 = 114 ∧ gfin gt111 q.1 q.2.1 = some none ∧ q.2.2.2.2.2.2 sk 1 = .int (zi c1) ∧ 0 ≤ c1 ∧ c1 ≤ 500000 ∧ q.2.2.2.2.2.2 sk 2 = .int (zi u1) ∧ 0 ≤ u1 ∧ u1 ≤ 127 ∧ q.2.2.2.2.2.2 sk 3 = .int (zi h1) ∧ 0 ≤ h1 ∧ h1 ≤ 7 ∧ (c1 = (eeN v (Int.toNat n) sg).1) ∧ (u1 = (eeN v (Int.toNat n) sg).2.1) ∧ (h1 = (eeN v (Int.toNat n) sg).2.2.1) ∧ (4 * c1 + h1 ≤ 4 * c0 + h0 + n) ∧ (c0 ≤ c1) ∧ (1024 * ((q.2.2.1 : Int) - h.1) ≤ (q.2.2.2.2.2.1 bt2 : Int) - h.2.2.2.1 bt) ∧ (((q.2.2.2.1 : Int) - h.2.1) ≤ 2 * ((q.2.2.2.2.2.1 bt2 : Int) - h.2.2.2.1 bt)) ∧ ((h.2.2.2.1 bt : Int) ≤ (q.2.2.2.2.2.1 bt2 : Int)) ∧ (c1 ≤ (q.2.2.2.2.2.1 bt2 : Int)) ∧ (gSW ty9 bt2 (eeN v (Int.toNat n) sg) q.2.2) ∧ (eeOk (eeN v (Int.toNat n) sg))) := by
  have hS : gSs rT 1027 ty [56000, 56001, 56002, 56003, 114999] h h := gSs.rf hJ
  have G0 : gSg [114] [] [56000, 56001, 56002, 56003, 114999] ty h ty h := gSg.rf hJ (fun x hx => by cases hx)
  refine gz_s 1 (pc' := 1) (L' := [some (.ref x), some (.int (zi v)), some (.int (zi n))]) (S' := [.ref x]) rfl ?_
  refine gs_gtk rfl (by decide) rfl hS.1 tx rfl rfl ecg ?_
  refine gy_ifF rfl (by decide) (by decide) ⟨by omega, by omega⟩ (by first | (simp [zc]; done) | (simp only [zc]; omega)) ?_
  refine gz_s 1 (pc' := 8) (L' := [some (.ref x), some (.int (zi v)), some (.int (zi n))]) (S' := [.ref x]) rfl ?_
  refine gs_gtk rfl (by decide) rfl hS.1 tx rfl rfl esk ?_
  refine gz_s 2 (pc' := 13) (L' := [some (.ref x), some (.int (zi v)), some (.int (zi n))]) (S' := [.int (zi n), .int (zi v), .ref sk]) rfl ?_
  have hl1 : h.2.2.2.1 bt = h.2.2.2.1 bt := congrFun hS.2.2.2.2.1 bt
  refine gz_call rfl (by decide) rfl (by decide) (by decide) (gcal_of rfl rfl rfl (Nat.le_of_ble_eq_true rfl) (gJ.recv (G := gGG) hS.1 tsk rfl rfl)) (cw_putBits _ hS.1 sk tsk v ⟨by omega, by omega⟩ n ⟨by omega, by omega⟩ bt ebt tbt c0 ec0 ⟨by omega, by omega⟩ u0 eu0 ⟨by omega, by omega⟩ h0 eh0 ⟨by omega, by omega⟩ sg (by omega) (by omega) (by omega) (by omega) (by omega) uq hysw hyok) (fun q2 _ wq2 => ?_)
  obtain ⟨pq2, oq2, hq2⟩ := q2
  obtain ⟨tyq2, xq2, cq2_0, ttq2, fq2_0, fq2_1, fq2_2, ecq2_0, tcq2_0, gq2, efq2_0, afq2_0, bfq2_0, efq2_1, afq2_1, bfq2_1, efq2_2, afq2_2, bfq2_2, uq2_0, uq2_1, uq2_2, uq2_3, uq2_4, uq2_5, uq2_6, uq2_7, uq2_8, yq2_0, yq2_1⟩ := wq2
  dsimp only at uq2_5 uq2_6 uq2_7 uq2_8
  refine ⟨_, gq2, ?_⟩
  show gz gPP gGG gcn _ _ 16 [some (.ref x), some (.int (zi v)), some (.int (zi n))] [] hq2 _
  have G3 : gSg [114] [] [56000, 56001, 56002, 56003, 114999] ty h tyq2 hq2 := gSg.tr (gSg.ss G0 hS (by decide)) xq2 (by decide) (by decide) (fun x hx => by cases hx)
  have t4 : tyq2 x = 71 := gSg.typ xq2 hS.1 tx rfl
  have t5 : tyq2 sk = 56 := gSg.typ xq2 hS.1 tsk rfl
  have t6 : tyq2 bt = 114 := gSg.typ xq2 hS.1 tbt rfl
  have hl7 : hq2.2.2.2.1 bt = h.2.2.2.1 bt := gSg.len xq2 hS.1 tbt rfl
  have s8 := gSg.at xq2 hS.1 tx rfl (by decide) esk
  have s9 := gSg.at xq2 hS.1 tx rfl (by decide) ecg
  have uq10 := gSg.uq xq2 uq (by decide)
  have sS11 : gSs rT 1027 tyq2 [56000, 56001, 56002, 56003, 114999] hq2 hq2 := gSs.rf xq2.1
  have hl12 : 1024 ≤ hq2.2.2.2.1 bt ∧ hq2.2.2.2.1 bt ≤ 1000000 := gJ.rowl (G := gGG) sS11.1 t6 rfl
  have hl13 : 1024 ≤ hq2.2.2.2.1 cq2_0 ∧ hq2.2.2.2.1 cq2_0 ≤ 1000000 := gJ.rowl (G := gGG) sS11.1 tcq2_0 rfl
  have G14 : gSg [114] [] [56000, 56001, 56002, 56003, 114999] ty h tyq2 hq2 := gSg.ss G3 sS11 (by decide)
  exact gz_end (I := .return_) (len := 1) rfl (Or.inl rfl) ⟨tyq2, G14, cq2_0, trivial, fq2_0, fq2_1, fq2_2, ecq2_0, tcq2_0, rfl, efq2_0, (by omega), (by omega), efq2_1, (by omega), (by omega), efq2_2, (by omega), (by omega), (by omega), (by omega), (by omega), (by omega), (by omega), (by dsimp only; omega), (by dsimp only; omega), (by dsimp only; omega), (by dsimp only; omega), yq2_0, yq2_1⟩
set_option maxRecDepth 20000 in
set_option maxHeartbeats 4000000 in
theorem cn_putRestart (d : Nat) {ty : Nat → Nat} {h : gH} (hJ : gJ rT 1027 ty h) (x : Nat) (tx : ty x = 71) (n : Int) (rn : (-1) ≤ n ∧ n ≤ 16) (cg : Int) (ecg : h.2.2.2.2 x 11 = .int (zi cg)) (rcg : 1 ≤ cg ∧ cg ≤ 1) (uq : gUq ty) : gz gPP gGG gcn (d + 0) gt107 0 (gent [.ref x, .int (zi n)] 2) [] h (fun q _ => gSs rT 1027 ty [] h q.2.2 ∧ gfin gt107 q.1 q.2.1 = some none) := by
  have hS : gSs rT 1027 ty [] h h := gSs.rf hJ
  refine gz_s 1 (pc' := 1) (L' := [some (.ref x), some (.int (zi n))]) (S' := [.ref x]) rfl ?_
  refine gs_gtk rfl (by decide) rfl hS.1 tx rfl rfl ecg ?_
  refine gy_ifT (pc' := 29) rfl (by decide) (by decide) ⟨by omega, by omega⟩ (by first | (simp [zc]; done) | (simp only [zc]; omega)) ?_
  exact gz_end (I := .return_) (len := 1) rfl (Or.inl rfl) ⟨hS, rfl⟩
set_option maxRecDepth 20000 in
set_option maxHeartbeats 4000000 in
theorem cw_putRestart (d : Nat) {ty : Nat → Nat} {h : gH} (hJ : gJ rT 1027 ty h) (x : Nat) (tx : ty x = 71) (n : Int) (rn : 0 ≤ n ∧ n ≤ 16) (sk : Nat) (esk : h.2.2.2.2 x 0 = .ref sk) (tsk : ty sk = 56) (bt : Nat) (ebt : h.2.2.2.2 sk 0 = .ref bt) (tbt : ty bt = 114) (c0 : Int) (ec0 : h.2.2.2.2 sk 1 = .int (zi c0)) (rc0 : 0 ≤ c0 ∧ c0 ≤ 499999) (u0 : Int) (eu0 : h.2.2.2.2 sk 2 = .int (zi u0)) (ru0 : 0 ≤ u0 ∧ u0 ≤ 127) (h0 : Int) (eh0 : h.2.2.2.2 sk 3 = .int (zi h0)) (rh0 : 0 ≤ h0 ∧ h0 ≤ 7) (cg : Int) (ecg : h.2.2.2.2 x 11 = .int (zi cg)) (rcg : 0 ≤ cg ∧ cg ≤ 0) (sg : gWt) (pp0 : c0 = sg.1) (pp1 : u0 = sg.2.1) (pp2 : h0 = sg.2.2.1) (pp3 : 4 * c0 + h0 + 16 ≤ 1999990) (pp4 : c0 ≤ (h.2.2.2.1 bt : Int)) (uq : gUq ty) (hysw : gSW ty bt sg h) (hyok : eeOk sg) : gz gPP gGG gcn (d + 5) gt107 0 (gent [.ref x, .int (zi n)] 2) [] h (fun q _ => ∃ ty9 : Nat → Nat, gSg [114] [] [56000, 56001, 56002, 56003, 114999] ty h ty9 q.2.2 ∧ ∃ bt2 : Nat, True ∧ ∃ c1 u1 h1 : Int, q.2.2.2.2.2.2 sk 0 = .ref bt2 ∧ ty9 bt2 = 114 ∧ gfin gt107 q.1 q.2.1 = some none ∧ q.2.2.2.2.2.2 sk 1 = .int (zi c1) ∧ 0 ≤ c1 ∧ c1 ≤ 500000 ∧ q.2.2.2.2.2.2 sk 2 = .int (zi u1) ∧ 0 ≤ u1 ∧ u1 ≤ 127 ∧ q.2.2.2.2.2.2 sk 3 = .int (zi h1) ∧ 0 ≤ h1 ∧ h1 ≤ 7 ∧ (c1 = (eeM (eeF sg) (208 + n % 8)).1) ∧ (u1 = (eeM (eeF sg) (208 + n % 8)).2.1) ∧ (h1 = (eeM (eeF sg) (208 + n % 8)).2.2.1) ∧ (4 * c1 + h1 ≤ 4 * c0 + h0 + 16) ∧ (c0 ≤ c1) ∧ (1024 * ((q.2.2.1 : Int) - h.1) ≤ (q.2.2.2.2.2.1 bt2 : Int) - h.2.2.2.1 bt) ∧ (((q.2.2.2.1 : Int) - h.2.1) ≤ 2 * ((q.2.2.2.2.2.1 bt2 : Int) - h.2.2.2.1 bt)) ∧ ((h.2.2.2.1 bt : Int) ≤ (q.2.2.2.2.2.1 bt2 : Int)) ∧ (c1 ≤ (q.2.2.2.2.2.1 bt2 : Int)) ∧ (gSW ty9 bt2 (eeM (eeF sg) (208 + n % 8)) q.2.2) ∧ (eeOk (eeM (eeF sg) (208 + n % 8)))) := by
  have hS : gSs rT 1027 ty [56000, 56001, 56002, 56003, 114999] h h := gSs.rf hJ
  have G0 : gSg [114] [] [56000, 56001, 56002, 56003, 114999] ty h ty h := gSg.rf hJ (fun x hx => by cases hx)
  refine gz_s 1 (pc' := 1) (L' := [some (.ref x), some (.int (zi n))]) (S' := [.ref x]) rfl ?_
  refine gs_gtk rfl (by decide) rfl hS.1 tx rfl rfl ecg ?_
  refine gy_ifF rfl (by decide) (by decide) ⟨by omega, by omega⟩ (by first | (simp [zc]; done) | (simp only [zc]; omega)) ?_
  refine gz_s 1 (pc' := 8) (L' := [some (.ref x), some (.int (zi n))]) (S' := [.ref x]) rfl ?_
  refine gs_gtk rfl (by decide) rfl hS.1 tx rfl rfl esk ?_
  have hl1 : h.2.2.2.1 bt = h.2.2.2.1 bt := congrFun hS.2.2.2.2.1 bt
  refine gz_call rfl (by decide) rfl (by decide) (by decide) (gcal_of rfl rfl rfl (Nat.le_of_ble_eq_true rfl) (gJ.recv (G := gGG) hS.1 tsk rfl rfl)) (cw_fillByte _ hS.1 sk tsk bt ebt tbt c0 ec0 ⟨by omega, by omega⟩ u0 eu0 ⟨by omega, by omega⟩ h0 eh0 ⟨by omega, by omega⟩ sg (by omega) (by omega) (by omega) (by omega) (by omega) uq hysw hyok) (fun q2 _ wq2 => ?_)
  obtain ⟨pq2, oq2, hq2⟩ := q2
  obtain ⟨tyq2, xq2, cq2_0, ttq2, fq2_0, fq2_1, fq2_2, ecq2_0, tcq2_0, gq2, efq2_0, afq2_0, bfq2_0, efq2_1, afq2_1, bfq2_1, efq2_2, afq2_2, bfq2_2, uq2_0, uq2_1, uq2_2, uq2_3, uq2_4, uq2_5, uq2_6, uq2_7, uq2_8, yq2_0, yq2_1⟩ := wq2
  dsimp only at uq2_5 uq2_6 uq2_7 uq2_8
  refine ⟨_, gq2, ?_⟩
  show gz gPP gGG gcn _ _ 14 [some (.ref x), some (.int (zi n))] [] hq2 _
  have G3 : gSg [114] [] [56000, 56001, 56002, 56003, 114999] ty h tyq2 hq2 := gSg.tr (gSg.ss G0 hS (by decide)) xq2 (by decide) (by decide) (fun x hx => by cases hx)
  have t4 : tyq2 x = 71 := gSg.typ xq2 hS.1 tx rfl
  have t5 : tyq2 sk = 56 := gSg.typ xq2 hS.1 tsk rfl
  have t6 : tyq2 bt = 114 := gSg.typ xq2 hS.1 tbt rfl
  have hl7 : hq2.2.2.2.1 bt = h.2.2.2.1 bt := gSg.len xq2 hS.1 tbt rfl
  have s8 := gSg.at xq2 hS.1 tx rfl (by decide) esk
  have s9 := gSg.at xq2 hS.1 tx rfl (by decide) ecg
  have uq10 := gSg.uq xq2 uq (by decide)
  have sS11 : gSs rT 1027 tyq2 [56000, 56001, 56002, 56003, 114999] hq2 hq2 := gSs.rf xq2.1
  refine gz_s 1 (pc' := 15) (L' := [some (.ref x), some (.int (zi n))]) (S' := [.ref x]) rfl ?_
  refine gs_gtk rfl (by decide) rfl sS11.1 t4 rfl rfl s8 ?_
  refine gz_s 3 (pc' := 24) (L' := [some (.ref x), some (.int (zi n))]) (S' := [.int (zi 8), .int (zi n), .int (zi 208), .ref sk]) rfl ?_
  refine gy_rem rfl (by decide) (by omega) (by omega) ?_
  refine gy_s 1 (pc' := 26) (L' := [some (.ref x), some (.int (zi n))]) (S' := [.int ((zi 208) + (zi (n % 8))), .ref sk]) (L2 := [some (.ref x), some (.int (zi n))]) (S2 := [.int (zi (208 + (n % 8))), .ref sk]) rfl (by simp only [zi_add, zi_sub, zi_mul, zi_neg, zi_and1, zi_and7, zi_and15, zi_and31, zi_and255]) (by simp only [zi_add, zi_sub, zi_mul, zi_neg, zi_and1, zi_and7, zi_and15, zi_and31, zi_and255]) ?_
  have hl12 : hq2.2.2.2.1 cq2_0 = hq2.2.2.2.1 cq2_0 := congrFun sS11.2.2.2.2.1 cq2_0
  refine gz_call rfl (by decide) rfl (by decide) (by decide) (gcal_of rfl rfl rfl (Nat.le_of_ble_eq_true rfl) (gJ.recv (G := gGG) sS11.1 t5 rfl rfl)) (cw_putMarker _ sS11.1 sk t5 (208 + (n % 8)) ⟨by omega, by omega⟩ cq2_0 ecq2_0 tcq2_0 fq2_0 efq2_0 ⟨by omega, by omega⟩ (eeF sg) (by omega) (by omega) uq10 yq2_0 yq2_1) (fun q13 _ wq13 => ?_)
  obtain ⟨pq13, oq13, hq13⟩ := q13
  obtain ⟨tyq13, xq13, cq13_0, ttq13, fq13_0, ecq13_0, tcq13_0, gq13, efq13_0, afq13_0, bfq13_0, uq13_0, uq13_1, uq13_2, uq13_3, uq13_4, uq13_5, uq13_6, uq13_7, yq13_0, yq13_1⟩ := wq13
  dsimp only at uq13_4 uq13_5 uq13_6 uq13_7
  refine ⟨_, gq13, ?_⟩
  show gz gPP gGG gcn _ _ 29 [some (.ref x), some (.int (zi n))] [] hq13 _
  have G14 : gSg [114] [] [56000, 56001, 56002, 56003, 114999] ty h tyq13 hq13 := gSg.tr (gSg.ss G3 sS11 (by decide)) xq13 (by decide) (by decide) (fun x hx => by cases hx)
  have t15 : tyq13 x = 71 := gSg.typ xq13 sS11.1 t4 rfl
  have t16 : tyq13 sk = 56 := gSg.typ xq13 sS11.1 t5 rfl
  have t17 : tyq13 bt = 114 := gSg.typ xq13 sS11.1 t6 rfl
  have hl18 : hq13.2.2.2.1 bt = hq2.2.2.2.1 bt := gSg.len xq13 sS11.1 t6 rfl
  have t19 : tyq13 cq2_0 = 114 := gSg.typ xq13 sS11.1 tcq2_0 rfl
  have hl20 : hq13.2.2.2.1 cq2_0 = hq2.2.2.2.1 cq2_0 := gSg.len xq13 sS11.1 tcq2_0 rfl
  have s21 := gSg.at xq13 sS11.1 t4 rfl (by decide) s8
  have s22 := gSg.at xq13 sS11.1 t4 rfl (by decide) s9
  have s23 := gSg.at xq13 sS11.1 t5 rfl (by decide) efq2_1
  have s24 := gSg.at xq13 sS11.1 t5 rfl (by decide) efq2_2
  have uq25 := gSg.uq xq13 uq10 (by decide)
  have sS26 : gSs rT 1027 tyq13 [56000, 56001, 56002, 56003, 114999] hq13 hq13 := gSs.rf xq13.1
  have hl27 : 1024 ≤ hq13.2.2.2.1 bt ∧ hq13.2.2.2.1 bt ≤ 1000000 := gJ.rowl (G := gGG) sS26.1 t17 rfl
  have hl28 : 1024 ≤ hq13.2.2.2.1 cq2_0 ∧ hq13.2.2.2.1 cq2_0 ≤ 1000000 := gJ.rowl (G := gGG) sS26.1 t19 rfl
  have hl29 : 1024 ≤ hq13.2.2.2.1 cq13_0 ∧ hq13.2.2.2.1 cq13_0 ≤ 1000000 := gJ.rowl (G := gGG) sS26.1 tcq13_0 rfl
  have G30 : gSg [114] [] [56000, 56001, 56002, 56003, 114999] ty h tyq13 hq13 := gSg.ss G14 sS26 (by decide)
  exact gz_end (I := .return_) (len := 1) rfl (Or.inl rfl) ⟨tyq13, G30, cq13_0, trivial, fq13_0, fq2_1, fq2_2, ecq13_0, tcq13_0, rfl, efq13_0, (by omega), (by omega), s23, (by omega), (by omega), s24, (by omega), (by omega), (by omega), (by omega), (by omega), (by omega), (by omega), (by dsimp only; omega), (by dsimp only; omega), (by dsimp only; omega), (by dsimp only; omega), yq13_0, yq13_1⟩
set_option maxRecDepth 20000 in
set_option maxHeartbeats 4000000 in
theorem cn_putFirst (d : Nat) {ty : Nat → Nat} {h : gH} (hJ : gJ rT 1027 ty h) (x : Nat) (tx : ty x = 71) (p : Int) (rp : 0 ≤ p ∧ p ≤ 960) (cg : Int) (ecg : h.2.2.2.2 x 11 = .int (zi cg)) (rcg : 1 ≤ cg ∧ cg ≤ 1) (lw : Int) (elw : h.2.2.2.2 x 10 = .int (zi lw)) (rlw : 0 ≤ lw ∧ lw ≤ 3) (hg : Int) (ehg : h.2.2.2.2 x 9 = .int (zi hg)) (rhg : 0 ≤ hg ∧ hg ≤ 4) (bs : Int) (ebs : h.2.2.2.2 x 5 = .int (zi bs)) (rbs : 0 ≤ bs ∧ bs ≤ 16) (bf : Int) (ebf : h.2.2.2.2 x 12 = .int (zi bf)) (rbf : (-2048) ≤ bf ∧ bf ≤ 2048) (w cf : Nat → Int) (pp0 : p + 64 ≤ 64 * bs) (uq : gUq ty) (hyf97 : gRn 257 ty 97 w h) (hywb : ewB w 90000) (hyf73 : gRn (64 * bs).toNat ty 73 cf h) : gz gPP gGG gcn (d + 2) gt110 0 (gent [.ref x, .int (zi p)] 5) [] h (fun q _ => gSs rT 1027 ty [71012, 97999] h q.2.2 ∧ ∃ b1 : Int, gfin gt110 q.1 q.2.1 = some none ∧ q.2.2.2.2.2.2 x 12 = .int (zi b1) ∧ (-2048) ≤ b1 ∧ b1 ≤ 2048 ∧ (b1 = (eeFi ecS ecP lw hg (cf (p).toNat) bf w).1) ∧ (gRn 257 ty 97 ((eeFi ecS ecP lw hg (cf (p).toNat) bf w).2) q.2.2)) := by
  have hS : gSs rT 1027 ty [71012, 97999] h h := gSs.rf hJ
  refine gz_s 1 (pc' := 1) (L' := [some (.ref x), some (.int (zi p)), none, none, none]) (S' := [.ref x]) rfl ?_
  refine gs_gtr rfl (by decide) rfl hS.1 tx rfl rfl rfl (fun c1 ec1 tc1 => ?_)
  refine gz_s 1 (pc' := 5) (L' := [some (.ref x), some (.int (zi p)), none, none, none]) (S' := [.int (zi p), .ref c1]) rfl ?_
  have hl2 : 1024 ≤ h.2.2.2.1 c1 ∧ h.2.2.2.1 c1 ≤ 1024 := gJ.rowl (G := gGG) hS.1 tc1 rfl
  refine gs_ald rfl (by decide) hS.1 tc1 rfl rfl rfl (by decide) (fun _ => rfl) (by omega) (by omega) (fun z3 ez3 az3 bz3 => ?_)
  have hf4 := gRn.at (i := p) (z := z3) hyf73 tc1 ez3 (by omega) (by omega) (by omega)
  refine gz_s 1 (pc' := 7) (L' := [some (.ref x), some (.int (zi p)), none, none, none]) (S' := [.ref x, .int (zi z3)]) rfl ?_
  refine gs_gtk rfl (by decide) rfl hS.1 tx rfl rfl elw ?_
  refine gy_shr rfl (by decide) (by omega) (by omega) ?_
  have hx5 := zsh_c (a := z3) (n := lw)
  refine gz_s 2 (pc' := 13) (L' := [some (.ref x), some (.int (zi p)), some (.int (zi (z3 / 2 ^ (lw).toNat))), none, none]) (S' := [.ref x]) rfl ?_
  refine gs_gtk rfl (by decide) rfl hS.1 tx rfl rfl ehg ?_
  by_cases hc6 : (hg : Int) ≤ 0
  · refine gy_ifT (pc' := 28) rfl (by decide) (by decide) (by omega) hc6 ?_
    refine gz_s 2 (pc' := 30) (L' := [some (.ref x), some (.int (zi p)), some (.int (zi (z3 / 2 ^ (lw).toNat))), none, none]) (S' := [.ref x, .int (zi (z3 / 2 ^ (lw).toNat))]) rfl ?_
    refine gs_gtk rfl (by decide) rfl hS.1 tx rfl rfl ebf ?_
    refine gy_s 4 (pc' := 37) (L' := [some (.ref x), some (.int (zi p)), some (.int (zi (z3 / 2 ^ (lw).toNat))), some (.int ((zi (z3 / 2 ^ (lw).toNat)) - (zi bf))), none]) (S' := [.int (zi (z3 / 2 ^ (lw).toNat)), .ref x]) (L2 := [some (.ref x), some (.int (zi p)), some (.int (zi (z3 / 2 ^ (lw).toNat))), some (.int (zi ((z3 / 2 ^ (lw).toNat) - bf))), none]) (S2 := [.int (zi (z3 / 2 ^ (lw).toNat)), .ref x]) rfl (by simp only [zi_add, zi_sub, zi_mul, zi_neg, zi_and1, zi_and7, zi_and15, zi_and31, zi_and255]) (by simp only [zi_add, zi_sub, zi_mul, zi_neg, zi_and1, zi_and7, zi_and15, zi_and31, zi_and255]) ?_
    refine gs_put rfl (by decide) rfl hS tx rfl rfl rfl rfl (Or.inl rfl) (by decide) (by omega) (by omega) (fun h7 sh7 eh7 fh7 => ?_)
    have pr8 := gRn.pt fh7 tx (by decide) hyf97
    have pr9 := gRn.pt fh7 tx (by decide) hyf73
    have s10 := (fh7 x 11 (fun q => absurd q.2 (by decide))).trans ecg
    have s11 := (fh7 x 10 (fun q => absurd q.2 (by decide))).trans elw
    have s12 := (fh7 x 9 (fun q => absurd q.2 (by decide))).trans ehg
    have s13 := (fh7 x 5 (fun q => absurd q.2 (by decide))).trans ebs
    have s14 := (fh7 x 2 (fun q => absurd q.2 (by decide))).trans ec1
    refine gz_s 1 (pc' := 41) (L' := [some (.ref x), some (.int (zi p)), some (.int (zi (z3 / 2 ^ (lw).toNat))), some (.int (zi ((z3 / 2 ^ (lw).toNat) - bf))), none]) (S' := [.int (zi ((z3 / 2 ^ (lw).toNat) - bf))]) rfl ?_
    refine gz_call rfl (by decide) rfl (by decide) (by decide) (gcal_of rfl rfl rfl (Nat.le_of_ble_eq_true rfl) rfl) (cw_bitsOf _ sh7.1 ((z3 / 2 ^ (lw).toNat) - bf) ⟨by omega, by omega⟩ uq) (fun q15 _ wq15 => ?_)
    obtain ⟨pq15, oq15, hq15⟩ := q15
    obtain ⟨xq15, zq15, gq15, aq15, bq15, uq15_0⟩ := wq15
    refine ⟨_, gq15, ?_⟩
    show gz gPP gGG gcn _ _ 44 [some (.ref x), some (.int (zi p)), some (.int (zi (z3 / 2 ^ (lw).toNat))), some (.int (zi ((z3 / 2 ^ (lw).toNat) - bf))), none] [.int (zi zq15)] hq15 _
    have sq15 : gSs rT 1027 ty [71012, 97999] h hq15 := gSs.tr sh7 xq15 (by decide)
    have s16 := (xq15.2.2.2.2.2 x 11 (by rw [tx]; decide)).trans s10
    have s17 := (xq15.2.2.2.2.2 x 10 (by rw [tx]; decide)).trans s11
    have s18 := (xq15.2.2.2.2.2 x 9 (by rw [tx]; decide)).trans s12
    have s19 := (xq15.2.2.2.2.2 x 5 (by rw [tx]; decide)).trans s13
    have s20 := (xq15.2.2.2.2.2 x 2 (by rw [tx]; decide)).trans s14
    have s21 := (xq15.2.2.2.2.2 x 12 (by rw [tx]; decide)).trans eh7
    have pr22 := gRn.fr xq15.2 (by decide) pr8
    have pr23 := gRn.fr xq15.2 (by decide) pr9
    refine gz_s 4 (pc' := 50) (L' := [some (.ref x), some (.int (zi p)), some (.int (zi (z3 / 2 ^ (lw).toNat))), some (.int (zi ((z3 / 2 ^ (lw).toNat) - bf))), some (.int (zi zq15))]) (S' := [.int (zi zq15), .int (zi 0), .ref x]) rfl ?_
    refine gz_call rfl (by decide) rfl (by decide) (by decide) (gcal_of rfl rfl rfl (Nat.le_of_ble_eq_true rfl) (gJ.recv (G := gGG) sq15.1 tx rfl rfl)) (cn_putSymbol0 _ sq15.1 x tx 0 ⟨by omega, by omega⟩ zq15 ⟨by omega, by omega⟩ cg s16 ⟨by omega, by omega⟩ w uq pr22 hywb) (fun q24 _ wq24 => ?_)
    obtain ⟨pq24, oq24, hq24⟩ := q24
    obtain ⟨xq24, gq24, yq24_0⟩ := wq24
    refine ⟨_, gq24, ?_⟩
    show gz gPP gGG gcn _ _ 53 [some (.ref x), some (.int (zi p)), some (.int (zi (z3 / 2 ^ (lw).toNat))), some (.int (zi ((z3 / 2 ^ (lw).toNat) - bf))), some (.int (zi zq15))] [] hq24 _
    have sq24 : gSs rT 1027 ty [71012, 97999] h hq24 := gSs.tr sq15 xq24 (by decide)
    have s25 := (xq24.2.2.2.2.2 x 11 (by rw [tx]; decide)).trans s16
    have s26 := (xq24.2.2.2.2.2 x 10 (by rw [tx]; decide)).trans s17
    have s27 := (xq24.2.2.2.2.2 x 9 (by rw [tx]; decide)).trans s18
    have s28 := (xq24.2.2.2.2.2 x 5 (by rw [tx]; decide)).trans s19
    have s29 := (xq24.2.2.2.2.2 x 2 (by rw [tx]; decide)).trans s20
    have s30 := (xq24.2.2.2.2.2 x 12 (by rw [tx]; decide)).trans s21
    have pr31 := gRn.fr xq24.2 (by decide) pr23
    refine gz_s 2 (pc' := 55) (L' := [some (.ref x), some (.int (zi p)), some (.int (zi (z3 / 2 ^ (lw).toNat))), some (.int (zi ((z3 / 2 ^ (lw).toNat) - bf))), some (.int (zi zq15))]) (S' := [.int (zi ((z3 / 2 ^ (lw).toNat) - bf)), .ref x]) rfl ?_
    by_cases hc32 : (0 : Int) ≤ (z3 / 2 ^ (lw).toNat) - bf
    · refine gy_ifT (pc' := 64) rfl (by decide) (by decide) (by omega) hc32 ?_
      refine gz_s 2 (pc' := 67) (L' := [some (.ref x), some (.int (zi p)), some (.int (zi (z3 / 2 ^ (lw).toNat))), some (.int (zi ((z3 / 2 ^ (lw).toNat) - bf))), some (.int (zi zq15))]) (S' := [.int (zi zq15), .int (zi ((z3 / 2 ^ (lw).toNat) - bf)), .ref x]) rfl ?_
      refine gz_call rfl (by decide) rfl (by decide) (by decide) (gcal_of rfl rfl rfl (Nat.le_of_ble_eq_true rfl) (gJ.recv (G := gGG) sq24.1 tx rfl rfl)) (cn_putPlain _ sq24.1 x tx ((z3 / 2 ^ (lw).toNat) - bf) ⟨by omega, by omega⟩ zq15 ⟨by omega, by omega⟩ cg s25 ⟨by omega, by omega⟩ uq) (fun q33 _ wq33 => ?_)
      obtain ⟨pq33, oq33, hq33⟩ := q33
      obtain ⟨xq33, gq33⟩ := wq33
      refine ⟨_, gq33, ?_⟩
      show gz gPP gGG gcn _ _ 70 [some (.ref x), some (.int (zi p)), some (.int (zi (z3 / 2 ^ (lw).toNat))), some (.int (zi ((z3 / 2 ^ (lw).toNat) - bf))), some (.int (zi zq15))] [] hq33 _
      have sq33 : gSs rT 1027 ty [71012, 97999] h hq33 := gSs.tr sq24 xq33 (by decide)
      have s34 := (xq33.2.2.2.2.2 x 11 (by rw [tx]; decide)).trans s25
      have s35 := (xq33.2.2.2.2.2 x 10 (by rw [tx]; decide)).trans s26
      have s36 := (xq33.2.2.2.2.2 x 9 (by rw [tx]; decide)).trans s27
      have s37 := (xq33.2.2.2.2.2 x 5 (by rw [tx]; decide)).trans s28
      have s38 := (xq33.2.2.2.2.2 x 2 (by rw [tx]; decide)).trans s29
      have s39 := (xq33.2.2.2.2.2 x 12 (by rw [tx]; decide)).trans s30
      have pr40 := gRn.fr xq33.2 (by decide) pr31
      have pr41 := gRn.fr xq33.2 (by decide) yq24_0
      have hF : eeFi ecS ecP lw hg (cf (p).toNat) bf w = (z3 / 2 ^ (lw).toNat, ecS zq15 w) := by rw [hf4]; exact eeFi_n (x := z3 / 2 ^ (lw).toNat) (s := zq15) (by omega) rfl (by omega) rfl
      have hk42 : (eeFi ecS ecP lw hg (cf (p).toNat) bf w).2 = ecS zq15 w := by rw [hF]
      have hrw43 : gRn 257 ty 97 ((eeFi ecS ecP lw hg (cf (p).toNat) bf w).2) hq33 := by rw [hk42]; exact pr41
      have hF1 : (eeFi ecS ecP lw hg (cf (p).toNat) bf w).1 = z3 / 2 ^ (lw).toNat := by rw [hF]
      exact gz_end (I := .return_) (len := 1) rfl (Or.inl rfl) ⟨sq33, z3 / 2 ^ (lw).toNat, rfl, s39, (by omega), (by omega), (by omega), hrw43⟩
    · refine gy_ifF rfl (by decide) (by decide) (by omega) hc32 ?_
      refine gy_s 5 (pc' := 67) (L' := [some (.ref x), some (.int (zi p)), some (.int (zi (z3 / 2 ^ (lw).toNat))), some (.int (zi ((z3 / 2 ^ (lw).toNat) - bf))), some (.int (zi zq15))]) (S' := [.int (zi zq15), .int ((zi ((z3 / 2 ^ (lw).toNat) - bf)) - (zi 1)), .ref x]) (L2 := [some (.ref x), some (.int (zi p)), some (.int (zi (z3 / 2 ^ (lw).toNat))), some (.int (zi ((z3 / 2 ^ (lw).toNat) - bf))), some (.int (zi zq15))]) (S2 := [.int (zi zq15), .int (zi (((z3 / 2 ^ (lw).toNat) - bf) - 1)), .ref x]) rfl (by simp only [zi_add, zi_sub, zi_mul, zi_neg, zi_and1, zi_and7, zi_and15, zi_and31, zi_and255]) (by simp only [zi_add, zi_sub, zi_mul, zi_neg, zi_and1, zi_and7, zi_and15, zi_and31, zi_and255]) ?_
      refine gz_call rfl (by decide) rfl (by decide) (by decide) (gcal_of rfl rfl rfl (Nat.le_of_ble_eq_true rfl) (gJ.recv (G := gGG) sq24.1 tx rfl rfl)) (cn_putPlain _ sq24.1 x tx (((z3 / 2 ^ (lw).toNat) - bf) - 1) ⟨by omega, by omega⟩ zq15 ⟨by omega, by omega⟩ cg s25 ⟨by omega, by omega⟩ uq) (fun q44 _ wq44 => ?_)
      obtain ⟨pq44, oq44, hq44⟩ := q44
      obtain ⟨xq44, gq44⟩ := wq44
      refine ⟨_, gq44, ?_⟩
      show gz gPP gGG gcn _ _ 70 [some (.ref x), some (.int (zi p)), some (.int (zi (z3 / 2 ^ (lw).toNat))), some (.int (zi ((z3 / 2 ^ (lw).toNat) - bf))), some (.int (zi zq15))] [] hq44 _
      have sq44 : gSs rT 1027 ty [71012, 97999] h hq44 := gSs.tr sq24 xq44 (by decide)
      have s45 := (xq44.2.2.2.2.2 x 11 (by rw [tx]; decide)).trans s25
      have s46 := (xq44.2.2.2.2.2 x 10 (by rw [tx]; decide)).trans s26
      have s47 := (xq44.2.2.2.2.2 x 9 (by rw [tx]; decide)).trans s27
      have s48 := (xq44.2.2.2.2.2 x 5 (by rw [tx]; decide)).trans s28
      have s49 := (xq44.2.2.2.2.2 x 2 (by rw [tx]; decide)).trans s29
      have s50 := (xq44.2.2.2.2.2 x 12 (by rw [tx]; decide)).trans s30
      have pr51 := gRn.fr xq44.2 (by decide) pr31
      have pr52 := gRn.fr xq44.2 (by decide) yq24_0
      have hF : eeFi ecS ecP lw hg (cf (p).toNat) bf w = (z3 / 2 ^ (lw).toNat, ecS zq15 w) := by rw [hf4]; exact eeFi_n (x := z3 / 2 ^ (lw).toNat) (s := zq15) (by omega) rfl (by omega) rfl
      have hk53 : (eeFi ecS ecP lw hg (cf (p).toNat) bf w).2 = ecS zq15 w := by rw [hF]
      have hrw54 : gRn 257 ty 97 ((eeFi ecS ecP lw hg (cf (p).toNat) bf w).2) hq44 := by rw [hk53]; exact pr52
      have hF1 : (eeFi ecS ecP lw hg (cf (p).toNat) bf w).1 = z3 / 2 ^ (lw).toNat := by rw [hF]
      exact gz_end (I := .return_) (len := 1) rfl (Or.inl rfl) ⟨sq44, z3 / 2 ^ (lw).toNat, rfl, s50, (by omega), (by omega), (by omega), hrw54⟩
  · refine gy_ifF rfl (by decide) (by decide) (by omega) hc6 ?_
    refine gy_s 5 (pc' := 24) (L' := [some (.ref x), some (.int (zi p)), some (.int (zi (z3 / 2 ^ (lw).toNat))), none, none]) (S' := [.int (zi 1), .int ((zi (z3 / 2 ^ (lw).toNat)) &&& (zi 1)), .ref x]) (L2 := [some (.ref x), some (.int (zi p)), some (.int (zi (z3 / 2 ^ (lw).toNat))), none, none]) (S2 := [.int (zi 1), .int (zi ((z3 / 2 ^ (lw).toNat) % 2)), .ref x]) rfl (by simp only [zi_add, zi_sub, zi_mul, zi_neg, zi_and1, zi_and7, zi_and15, zi_and31, zi_and255]) (by simp only [zi_add, zi_sub, zi_mul, zi_neg, zi_and1, zi_and7, zi_and15, zi_and31, zi_and255]) ?_
    refine gz_call rfl (by decide) rfl (by decide) (by decide) (gcal_of rfl rfl rfl (Nat.le_of_ble_eq_true rfl) (gJ.recv (G := gGG) hS.1 tx rfl rfl)) (cn_putPlain _ hS.1 x tx ((z3 / 2 ^ (lw).toNat) % 2) ⟨by omega, by omega⟩ 1 ⟨by omega, by omega⟩ cg ecg ⟨by omega, by omega⟩ uq) (fun q55 _ wq55 => ?_)
    obtain ⟨pq55, oq55, hq55⟩ := q55
    obtain ⟨xq55, gq55⟩ := wq55
    refine ⟨_, gq55, ?_⟩
    show gz gPP gGG gcn _ _ 27 [some (.ref x), some (.int (zi p)), some (.int (zi (z3 / 2 ^ (lw).toNat))), none, none] [] hq55 _
    have sq55 : gSs rT 1027 ty [71012, 97999] h hq55 := gSs.tr hS xq55 (by decide)
    have s56 := (xq55.2.2.2.2.2 x 11 (by rw [tx]; decide)).trans ecg
    have s57 := (xq55.2.2.2.2.2 x 10 (by rw [tx]; decide)).trans elw
    have s58 := (xq55.2.2.2.2.2 x 9 (by rw [tx]; decide)).trans ehg
    have s59 := (xq55.2.2.2.2.2 x 5 (by rw [tx]; decide)).trans ebs
    have s60 := (xq55.2.2.2.2.2 x 12 (by rw [tx]; decide)).trans ebf
    have s61 := (xq55.2.2.2.2.2 x 2 (by rw [tx]; decide)).trans ec1
    have pr62 := gRn.fr xq55.2 (by decide) hyf97
    have pr63 := gRn.fr xq55.2 (by decide) hyf73
    have hF : eeFi ecS ecP lw hg (cf (p).toNat) bf w = (bf, w) := by rw [hf4]; exact eeFi_p (by omega)
    have hk64 : (eeFi ecS ecP lw hg (cf (p).toNat) bf w).2 = w := by rw [hF]
    have hrw65 : gRn 257 ty 97 ((eeFi ecS ecP lw hg (cf (p).toNat) bf w).2) hq55 := by rw [hk64]; exact pr62
    have hF1 : (eeFi ecS ecP lw hg (cf (p).toNat) bf w).1 = bf := by rw [hF]
    exact gz_end (I := .return_) (len := 1) rfl (Or.inl rfl) ⟨sq55, bf, rfl, s60, (by omega), (by omega), (by omega), hrw65⟩
set_option maxRecDepth 20000 in
set_option maxHeartbeats 4000000 in
theorem cw_putFirst (d : Nat) {ty : Nat → Nat} {h : gH} (hJ : gJ rT 1027 ty h) (x : Nat) (tx : ty x = 71) (p : Int) (rp : 0 ≤ p ∧ p ≤ 960) (sk : Nat) (esk : h.2.2.2.2 x 0 = .ref sk) (tsk : ty sk = 56) (bt : Nat) (ebt : h.2.2.2.2 sk 0 = .ref bt) (tbt : ty bt = 114) (c0 : Int) (ec0 : h.2.2.2.2 sk 1 = .int (zi c0)) (rc0 : 0 ≤ c0 ∧ c0 ≤ 499999) (u0 : Int) (eu0 : h.2.2.2.2 sk 2 = .int (zi u0)) (ru0 : 0 ≤ u0 ∧ u0 ≤ 127) (h0 : Int) (eh0 : h.2.2.2.2 sk 3 = .int (zi h0)) (rh0 : 0 ≤ h0 ∧ h0 ≤ 7) (cg : Int) (ecg : h.2.2.2.2 x 11 = .int (zi cg)) (rcg : 0 ≤ cg ∧ cg ≤ 0) (lw : Int) (elw : h.2.2.2.2 x 10 = .int (zi lw)) (rlw : 0 ≤ lw ∧ lw ≤ 3) (hg : Int) (ehg : h.2.2.2.2 x 9 = .int (zi hg)) (rhg : 0 ≤ hg ∧ hg ≤ 4) (bs : Int) (ebs : h.2.2.2.2 x 5 = .int (zi bs)) (rbs : 0 ≤ bs ∧ bs ≤ 16) (bf : Int) (ebf : h.2.2.2.2 x 12 = .int (zi bf)) (rbf : (-2048) ≤ bf ∧ bf ≤ 2048) (cf : Nat → Int) (sg : gWt) (ec96 : Nat → Int × Int) (pp0 : c0 = sg.1) (pp1 : u0 = sg.2.1) (pp2 : h0 = sg.2.2.1) (pp3 : 4 * c0 + h0 + 320 ≤ 1999990) (pp4 : p + 64 ≤ 64 * bs) (pp5 : c0 ≤ (h.2.2.2.1 bt : Int)) (uq : gUq ty) (hysw : gSW ty bt sg h) (hyok : eeOk sg) (hyf73 : gRn (64 * bs).toNat ty 73 cf h) (hytb96 : gTab (hg = 0) ty 95 96 ec96 h) : gz gPP gGG gcn (d + 5) gt110 0 (gent [.ref x, .int (zi p)] 5) [] h (fun q _ => ∃ ty9 : Nat → Nat, gSg [114] [] [56000, 56001, 56002, 56003, 71012, 114999] ty h ty9 q.2.2 ∧ ∃ bt2 : Nat, True ∧ ∃ c1 u1 h1 b1 : Int, q.2.2.2.2.2.2 sk 0 = .ref bt2 ∧ ty9 bt2 = 114 ∧ gfin gt110 q.1 q.2.1 = some none ∧ q.2.2.2.2.2.2 sk 1 = .int (zi c1) ∧ 0 ≤ c1 ∧ c1 ≤ 500000 ∧ q.2.2.2.2.2.2 sk 2 = .int (zi u1) ∧ 0 ≤ u1 ∧ u1 ≤ 127 ∧ q.2.2.2.2.2.2 sk 3 = .int (zi h1) ∧ 0 ≤ h1 ∧ h1 ≤ 7 ∧ q.2.2.2.2.2.2 x 12 = .int (zi b1) ∧ (-2048) ≤ b1 ∧ b1 ≤ 2048 ∧ (c1 = ((eeFi (ewS ec96) eeN lw hg (cf (p).toNat) bf sg).2).1) ∧ (u1 = ((eeFi (ewS ec96) eeN lw hg (cf (p).toNat) bf sg).2).2.1) ∧ (h1 = ((eeFi (ewS ec96) eeN lw hg (cf (p).toNat) bf sg).2).2.2.1) ∧ (4 * c1 + h1 ≤ 4 * c0 + h0 + 320) ∧ (c0 ≤ c1) ∧ (1024 * ((q.2.2.1 : Int) - h.1) ≤ (q.2.2.2.2.2.1 bt2 : Int) - h.2.2.2.1 bt) ∧ (((q.2.2.2.1 : Int) - h.2.1) ≤ 2 * ((q.2.2.2.2.2.1 bt2 : Int) - h.2.2.2.1 bt)) ∧ ((h.2.2.2.1 bt : Int) ≤ (q.2.2.2.2.2.1 bt2 : Int)) ∧ (b1 = (eeFi (ewS ec96) eeN lw hg (cf (p).toNat) bf sg).1) ∧ (c1 ≤ (q.2.2.2.2.2.1 bt2 : Int)) ∧ (gSW ty9 bt2 ((eeFi (ewS ec96) eeN lw hg (cf (p).toNat) bf sg).2) q.2.2) ∧ (eeOk ((eeFi (ewS ec96) eeN lw hg (cf (p).toNat) bf sg).2))) := by
  have hS : gSs rT 1027 ty [56000, 56001, 56002, 56003, 71012, 114999] h h := gSs.rf hJ
  have G0 : gSg [114] [] [56000, 56001, 56002, 56003, 71012, 114999] ty h ty h := gSg.rf hJ (fun x hx => by cases hx)
  refine gz_s 1 (pc' := 1) (L' := [some (.ref x), some (.int (zi p)), none, none, none]) (S' := [.ref x]) rfl ?_
  refine gs_gtr rfl (by decide) rfl hS.1 tx rfl rfl rfl (fun c1 ec1 tc1 => ?_)
  refine gz_s 1 (pc' := 5) (L' := [some (.ref x), some (.int (zi p)), none, none, none]) (S' := [.int (zi p), .ref c1]) rfl ?_
  have hl2 : 1024 ≤ h.2.2.2.1 c1 ∧ h.2.2.2.1 c1 ≤ 1024 := gJ.rowl (G := gGG) hS.1 tc1 rfl
  refine gs_ald rfl (by decide) hS.1 tc1 rfl rfl rfl (by decide) (fun _ => rfl) (by omega) (by omega) (fun z3 ez3 az3 bz3 => ?_)
  have hf4 := gRn.at (i := p) (z := z3) hyf73 tc1 ez3 (by omega) (by omega) (by omega)
  refine gz_s 1 (pc' := 7) (L' := [some (.ref x), some (.int (zi p)), none, none, none]) (S' := [.ref x, .int (zi z3)]) rfl ?_
  refine gs_gtk rfl (by decide) rfl hS.1 tx rfl rfl elw ?_
  refine gy_shr rfl (by decide) (by omega) (by omega) ?_
  have hx5 := zsh_c (a := z3) (n := lw)
  refine gz_s 2 (pc' := 13) (L' := [some (.ref x), some (.int (zi p)), some (.int (zi (z3 / 2 ^ (lw).toNat))), none, none]) (S' := [.ref x]) rfl ?_
  refine gs_gtk rfl (by decide) rfl hS.1 tx rfl rfl ehg ?_
  by_cases hc6 : (hg : Int) ≤ 0
  · refine gy_ifT (pc' := 28) rfl (by decide) (by decide) (by omega) hc6 ?_
    refine gz_s 2 (pc' := 30) (L' := [some (.ref x), some (.int (zi p)), some (.int (zi (z3 / 2 ^ (lw).toNat))), none, none]) (S' := [.ref x, .int (zi (z3 / 2 ^ (lw).toNat))]) rfl ?_
    refine gs_gtk rfl (by decide) rfl hS.1 tx rfl rfl ebf ?_
    refine gy_s 4 (pc' := 37) (L' := [some (.ref x), some (.int (zi p)), some (.int (zi (z3 / 2 ^ (lw).toNat))), some (.int ((zi (z3 / 2 ^ (lw).toNat)) - (zi bf))), none]) (S' := [.int (zi (z3 / 2 ^ (lw).toNat)), .ref x]) (L2 := [some (.ref x), some (.int (zi p)), some (.int (zi (z3 / 2 ^ (lw).toNat))), some (.int (zi ((z3 / 2 ^ (lw).toNat) - bf))), none]) (S2 := [.int (zi (z3 / 2 ^ (lw).toNat)), .ref x]) rfl (by simp only [zi_add, zi_sub, zi_mul, zi_neg, zi_and1, zi_and7, zi_and15, zi_and31, zi_and255]) (by simp only [zi_add, zi_sub, zi_mul, zi_neg, zi_and1, zi_and7, zi_and15, zi_and31, zi_and255]) ?_
    refine gs_put rfl (by decide) rfl hS tx rfl rfl rfl rfl (Or.inl rfl) (by decide) (by omega) (by omega) (fun h7 sh7 eh7 fh7 => ?_)
    have pr8 := gSW.pt fh7 tx (by decide) hysw
    have pr9 := gRn.pt fh7 tx (by decide) hyf73
    have pr10 := gTab.pt fh7 tx (by decide) (by decide) hytb96
    have s11 := (fh7 x 0 (fun q => absurd q.2 (by decide))).trans esk
    have s12 := (fh7 sk 0 (fun q => absurd q.2 (by decide))).trans ebt
    have s13 := (fh7 sk 1 (fun q => absurd q.2 (by decide))).trans ec0
    have s14 := (fh7 sk 2 (fun q => absurd q.2 (by decide))).trans eu0
    have s15 := (fh7 sk 3 (fun q => absurd q.2 (by decide))).trans eh0
    have s16 := (fh7 x 11 (fun q => absurd q.2 (by decide))).trans ecg
    have s17 := (fh7 x 10 (fun q => absurd q.2 (by decide))).trans elw
    have s18 := (fh7 x 9 (fun q => absurd q.2 (by decide))).trans ehg
    have s19 := (fh7 x 5 (fun q => absurd q.2 (by decide))).trans ebs
    have s20 := (fh7 x 2 (fun q => absurd q.2 (by decide))).trans ec1
    refine gz_s 1 (pc' := 41) (L' := [some (.ref x), some (.int (zi p)), some (.int (zi (z3 / 2 ^ (lw).toNat))), some (.int (zi ((z3 / 2 ^ (lw).toNat) - bf))), none]) (S' := [.int (zi ((z3 / 2 ^ (lw).toNat) - bf))]) rfl ?_
    refine gz_call rfl (by decide) rfl (by decide) (by decide) (gcal_of rfl rfl rfl (Nat.le_of_ble_eq_true rfl) rfl) (cw_bitsOf _ sh7.1 ((z3 / 2 ^ (lw).toNat) - bf) ⟨by omega, by omega⟩ uq) (fun q21 _ wq21 => ?_)
    obtain ⟨pq21, oq21, hq21⟩ := q21
    obtain ⟨xq21, zq21, gq21, aq21, bq21, uq21_0⟩ := wq21
    refine ⟨_, gq21, ?_⟩
    show gz gPP gGG gcn _ _ 44 [some (.ref x), some (.int (zi p)), some (.int (zi (z3 / 2 ^ (lw).toNat))), some (.int (zi ((z3 / 2 ^ (lw).toNat) - bf))), none] [.int (zi zq21)] hq21 _
    have sq21 : gSs rT 1027 ty [56000, 56001, 56002, 56003, 71012, 114999] h hq21 := gSs.tr sh7 xq21 (by decide)
    have s22 := (xq21.2.2.2.2.2 x 0 (by rw [tx]; decide)).trans s11
    have s23 := (xq21.2.2.2.2.2 sk 0 (by rw [tsk]; decide)).trans s12
    have s24 := (xq21.2.2.2.2.2 sk 1 (by rw [tsk]; decide)).trans s13
    have s25 := (xq21.2.2.2.2.2 sk 2 (by rw [tsk]; decide)).trans s14
    have s26 := (xq21.2.2.2.2.2 sk 3 (by rw [tsk]; decide)).trans s15
    have s27 := (xq21.2.2.2.2.2 x 11 (by rw [tx]; decide)).trans s16
    have s28 := (xq21.2.2.2.2.2 x 10 (by rw [tx]; decide)).trans s17
    have s29 := (xq21.2.2.2.2.2 x 9 (by rw [tx]; decide)).trans s18
    have s30 := (xq21.2.2.2.2.2 x 5 (by rw [tx]; decide)).trans s19
    have s31 := (xq21.2.2.2.2.2 x 2 (by rw [tx]; decide)).trans s20
    have s32 := (xq21.2.2.2.2.2 x 12 (by rw [tx]; decide)).trans eh7
    have pr33 := gSW.fr xq21.2 (by decide) pr8
    have pr34 := gRn.fr xq21.2 (by decide) pr9
    have pr35 := gTab.fr xq21.2 (fun _ => rfl) (fun _ => rfl) (by decide) (by decide) pr10
    refine gz_s 1 (pc' := 46) (L' := [some (.ref x), some (.int (zi p)), some (.int (zi (z3 / 2 ^ (lw).toNat))), some (.int (zi ((z3 / 2 ^ (lw).toNat) - bf))), some (.int (zi zq21))]) (S' := []) rfl ?_
    have htb36 := gTab.imp (Q := True) (fun _ => by omega) pr35
    refine gz_s 3 (pc' := 50) (L' := [some (.ref x), some (.int (zi p)), some (.int (zi (z3 / 2 ^ (lw).toNat))), some (.int (zi ((z3 / 2 ^ (lw).toNat) - bf))), some (.int (zi zq21))]) (S' := [.int (zi zq21), .int (zi 0), .ref x]) rfl ?_
    have k37 := sq21.2.1
    have k37b := sq21.2.2.1
    have hl38 : hq21.2.2.2.1 bt = h.2.2.2.1 bt := congrFun sq21.2.2.2.2.1 bt
    have hl39 : hq21.2.2.2.1 bt = h.2.2.2.1 bt := congrFun sq21.2.2.2.2.1 bt
    refine gz_call rfl (by decide) rfl (by decide) (by decide) (gcal_of rfl rfl rfl (Nat.le_of_ble_eq_true rfl) (gJ.recv (G := gGG) sq21.1 tx rfl rfl)) (cw_putSymbol0 _ sq21.1 x tx 0 ⟨by omega, by omega⟩ zq21 ⟨by omega, by omega⟩ sk s22 tsk bt s23 tbt c0 s24 ⟨by omega, by omega⟩ u0 s25 ⟨by omega, by omega⟩ h0 s26 ⟨by omega, by omega⟩ cg s27 ⟨by omega, by omega⟩ sg ec96 (by omega) (by omega) (by omega) (by omega) (by omega) uq pr33 hyok htb36) (fun q40 _ wq40 => ?_)
    obtain ⟨pq40, oq40, hq40⟩ := q40
    obtain ⟨tyq40, xq40, cq40_0, ttq40, fq40_0, fq40_1, fq40_2, ecq40_0, tcq40_0, gq40, efq40_0, afq40_0, bfq40_0, efq40_1, afq40_1, bfq40_1, efq40_2, afq40_2, bfq40_2, uq40_0, uq40_1, uq40_2, uq40_3, uq40_4, uq40_5, uq40_6, uq40_7, uq40_8, yq40_0, yq40_1⟩ := wq40
    dsimp only at uq40_5 uq40_6 uq40_7 uq40_8
    refine ⟨_, gq40, ?_⟩
    show gz gPP gGG gcn _ _ 53 [some (.ref x), some (.int (zi p)), some (.int (zi (z3 / 2 ^ (lw).toNat))), some (.int (zi ((z3 / 2 ^ (lw).toNat) - bf))), some (.int (zi zq21))] [] hq40 _
    have G41 : gSg [114] [] [56000, 56001, 56002, 56003, 71012, 114999] ty h tyq40 hq40 := gSg.tr (gSg.ss G0 sq21 (by decide)) xq40 (by decide) (by decide) (fun x hx => by cases hx)
    have t42 : tyq40 x = 71 := gSg.typ xq40 sq21.1 tx rfl
    have t43 : tyq40 sk = 56 := gSg.typ xq40 sq21.1 tsk rfl
    have t44 : tyq40 bt = 114 := gSg.typ xq40 sq21.1 tbt rfl
    have hl45 : hq40.2.2.2.1 bt = hq21.2.2.2.1 bt := gSg.len xq40 sq21.1 tbt rfl
    have t46 : tyq40 c1 = 73 := gSg.typ xq40 sq21.1 tc1 rfl
    have s47 := gSg.at xq40 sq21.1 tx rfl (by decide) s22
    have s48 := gSg.at xq40 sq21.1 tx rfl (by decide) s27
    have s49 := gSg.at xq40 sq21.1 tx rfl (by decide) s28
    have s50 := gSg.at xq40 sq21.1 tx rfl (by decide) s29
    have s51 := gSg.at xq40 sq21.1 tx rfl (by decide) s30
    have s52 := gSg.at xq40 sq21.1 tx rfl (by decide) s31
    have s53 := gSg.at xq40 sq21.1 tx rfl (by decide) s32
    have pr54 := gRn.gr xq40 sq21.1 rfl (by decide) (by decide) pr34
    have pr55 := gTab.gr xq40 sq21.1 rfl rfl (fun _ => rfl) (fun _ => rfl) (by decide) (by decide) (by decide) (by decide) htb36
    have uq56 := gSg.uq xq40 uq (by decide)
    have sS57 : gSs rT 1027 tyq40 [56000, 56001, 56002, 56003, 71012, 114999] hq40 hq40 := gSs.rf xq40.1
    refine gz_s 2 (pc' := 55) (L' := [some (.ref x), some (.int (zi p)), some (.int (zi (z3 / 2 ^ (lw).toNat))), some (.int (zi ((z3 / 2 ^ (lw).toNat) - bf))), some (.int (zi zq21))]) (S' := [.int (zi ((z3 / 2 ^ (lw).toNat) - bf)), .ref x]) rfl ?_
    by_cases hc58 : (0 : Int) ≤ (z3 / 2 ^ (lw).toNat) - bf
    · refine gy_ifT (pc' := 64) rfl (by decide) (by decide) (by omega) hc58 ?_
      refine gz_s 2 (pc' := 67) (L' := [some (.ref x), some (.int (zi p)), some (.int (zi (z3 / 2 ^ (lw).toNat))), some (.int (zi ((z3 / 2 ^ (lw).toNat) - bf))), some (.int (zi zq21))]) (S' := [.int (zi zq21), .int (zi ((z3 / 2 ^ (lw).toNat) - bf)), .ref x]) rfl ?_
      have hl59 : hq40.2.2.2.1 cq40_0 = hq40.2.2.2.1 cq40_0 := congrFun sS57.2.2.2.2.1 cq40_0
      refine gz_call rfl (by decide) rfl (by decide) (by decide) (gcal_of rfl rfl rfl (Nat.le_of_ble_eq_true rfl) (gJ.recv (G := gGG) sS57.1 t42 rfl rfl)) (cw_putPlain _ sS57.1 x t42 ((z3 / 2 ^ (lw).toNat) - bf) ⟨by omega, by omega⟩ zq21 ⟨by omega, by omega⟩ sk s47 t43 cq40_0 ecq40_0 tcq40_0 fq40_0 efq40_0 ⟨by omega, by omega⟩ fq40_1 efq40_1 ⟨by omega, by omega⟩ fq40_2 efq40_2 ⟨by omega, by omega⟩ cg s48 ⟨by omega, by omega⟩ (ewS ec96 zq21 sg) (by omega) (by omega) (by omega) (by omega) (by omega) uq56 yq40_0 yq40_1) (fun q60 _ wq60 => ?_)
      obtain ⟨pq60, oq60, hq60⟩ := q60
      obtain ⟨tyq60, xq60, cq60_0, ttq60, fq60_0, fq60_1, fq60_2, ecq60_0, tcq60_0, gq60, efq60_0, afq60_0, bfq60_0, efq60_1, afq60_1, bfq60_1, efq60_2, afq60_2, bfq60_2, uq60_0, uq60_1, uq60_2, uq60_3, uq60_4, uq60_5, uq60_6, uq60_7, uq60_8, yq60_0, yq60_1⟩ := wq60
      dsimp only at uq60_5 uq60_6 uq60_7 uq60_8
      refine ⟨_, gq60, ?_⟩
      show gz gPP gGG gcn _ _ 70 [some (.ref x), some (.int (zi p)), some (.int (zi (z3 / 2 ^ (lw).toNat))), some (.int (zi ((z3 / 2 ^ (lw).toNat) - bf))), some (.int (zi zq21))] [] hq60 _
      have G61 : gSg [114] [] [56000, 56001, 56002, 56003, 71012, 114999] ty h tyq60 hq60 := gSg.tr (gSg.ss G41 sS57 (by decide)) xq60 (by decide) (by decide) (fun x hx => by cases hx)
      have t62 : tyq60 x = 71 := gSg.typ xq60 sS57.1 t42 rfl
      have t63 : tyq60 sk = 56 := gSg.typ xq60 sS57.1 t43 rfl
      have t64 : tyq60 bt = 114 := gSg.typ xq60 sS57.1 t44 rfl
      have hl65 : hq60.2.2.2.1 bt = hq40.2.2.2.1 bt := gSg.len xq60 sS57.1 t44 rfl
      have t66 : tyq60 c1 = 73 := gSg.typ xq60 sS57.1 t46 rfl
      have t67 : tyq60 cq40_0 = 114 := gSg.typ xq60 sS57.1 tcq40_0 rfl
      have hl68 : hq60.2.2.2.1 cq40_0 = hq40.2.2.2.1 cq40_0 := gSg.len xq60 sS57.1 tcq40_0 rfl
      have s69 := gSg.at xq60 sS57.1 t42 rfl (by decide) s47
      have s70 := gSg.at xq60 sS57.1 t42 rfl (by decide) s48
      have s71 := gSg.at xq60 sS57.1 t42 rfl (by decide) s49
      have s72 := gSg.at xq60 sS57.1 t42 rfl (by decide) s50
      have s73 := gSg.at xq60 sS57.1 t42 rfl (by decide) s51
      have s74 := gSg.at xq60 sS57.1 t42 rfl (by decide) s52
      have s75 := gSg.at xq60 sS57.1 t42 rfl (by decide) s53
      have pr76 := gRn.gr xq60 sS57.1 rfl (by decide) (by decide) pr54
      have pr77 := gTab.gr xq60 sS57.1 rfl rfl (fun _ => rfl) (fun _ => rfl) (by decide) (by decide) (by decide) (by decide) pr55
      have uq78 := gSg.uq xq60 uq56 (by decide)
      have sS79 : gSs rT 1027 tyq60 [56000, 56001, 56002, 56003, 71012, 114999] hq60 hq60 := gSs.rf xq60.1
      have hF : eeFi (ewS ec96) eeN lw hg (cf (p).toNat) bf sg = (z3 / 2 ^ (lw).toNat, eeN ((z3 / 2 ^ (lw).toNat) - bf) (Int.toNat zq21) (ewS ec96 zq21 sg)) := by rw [hf4]; exact eeFi_n (x := z3 / 2 ^ (lw).toNat) (s := zq21) (by omega) rfl (by omega) (by omega)
      have hk80 : (eeFi (ewS ec96) eeN lw hg (cf (p).toNat) bf sg).2 = eeN ((z3 / 2 ^ (lw).toNat) - bf) (Int.toNat zq21) (ewS ec96 zq21 sg) := by rw [hF]
      have hk80_1 : ((eeFi (ewS ec96) eeN lw hg (cf (p).toNat) bf sg).2).1 = (eeN ((z3 / 2 ^ (lw).toNat) - bf) (Int.toNat zq21) (ewS ec96 zq21 sg)).1 := by rw [hk80]
      have hk80_21 : ((eeFi (ewS ec96) eeN lw hg (cf (p).toNat) bf sg).2).2.1 = (eeN ((z3 / 2 ^ (lw).toNat) - bf) (Int.toNat zq21) (ewS ec96 zq21 sg)).2.1 := by rw [hk80]
      have hk80_221 : ((eeFi (ewS ec96) eeN lw hg (cf (p).toNat) bf sg).2).2.2.1 = (eeN ((z3 / 2 ^ (lw).toNat) - bf) (Int.toNat zq21) (ewS ec96 zq21 sg)).2.2.1 := by rw [hk80]
      have hsw81 : gSW tyq60 cq60_0 ((eeFi (ewS ec96) eeN lw hg (cf (p).toNat) bf sg).2) hq60 := by rw [hk80]; exact yq60_0
      have hok82 : eeOk ((eeFi (ewS ec96) eeN lw hg (cf (p).toNat) bf sg).2) := by rw [hk80]; exact yq60_1
      have hoc83 := hok82.cur
      have hF1 : (eeFi (ewS ec96) eeN lw hg (cf (p).toNat) bf sg).1 = z3 / 2 ^ (lw).toNat := by rw [hF]
      have hl84 : 1024 ≤ hq60.2.2.2.1 bt ∧ hq60.2.2.2.1 bt ≤ 1000000 := gJ.rowl (G := gGG) sS79.1 t64 rfl
      have hl85 : 1024 ≤ hq60.2.2.2.1 cq40_0 ∧ hq60.2.2.2.1 cq40_0 ≤ 1000000 := gJ.rowl (G := gGG) sS79.1 t67 rfl
      have hl86 : 1024 ≤ hq60.2.2.2.1 cq60_0 ∧ hq60.2.2.2.1 cq60_0 ≤ 1000000 := gJ.rowl (G := gGG) sS79.1 tcq60_0 rfl
      have G87 : gSg [114] [] [56000, 56001, 56002, 56003, 71012, 114999] ty h tyq60 hq60 := gSg.ss G61 sS79 (by decide)
      exact gz_end (I := .return_) (len := 1) rfl (Or.inl rfl) ⟨tyq60, G87, cq60_0, trivial, fq60_0, fq60_1, fq60_2, z3 / 2 ^ (lw).toNat, ecq60_0, tcq60_0, rfl, efq60_0, (by omega), (by omega), efq60_1, (by omega), (by omega), efq60_2, (by omega), (by omega), s75, (by omega), (by omega), (by omega), (by omega), (by omega), (by omega), (by omega), (by dsimp only; omega), (by dsimp only; omega), (by dsimp only; omega), (by omega), (by dsimp only; omega), hsw81, hok82⟩
    · refine gy_ifF rfl (by decide) (by decide) (by omega) hc58 ?_
      refine gy_s 5 (pc' := 67) (L' := [some (.ref x), some (.int (zi p)), some (.int (zi (z3 / 2 ^ (lw).toNat))), some (.int (zi ((z3 / 2 ^ (lw).toNat) - bf))), some (.int (zi zq21))]) (S' := [.int (zi zq21), .int ((zi ((z3 / 2 ^ (lw).toNat) - bf)) - (zi 1)), .ref x]) (L2 := [some (.ref x), some (.int (zi p)), some (.int (zi (z3 / 2 ^ (lw).toNat))), some (.int (zi ((z3 / 2 ^ (lw).toNat) - bf))), some (.int (zi zq21))]) (S2 := [.int (zi zq21), .int (zi (((z3 / 2 ^ (lw).toNat) - bf) - 1)), .ref x]) rfl (by simp only [zi_add, zi_sub, zi_mul, zi_neg, zi_and1, zi_and7, zi_and15, zi_and31, zi_and255]) (by simp only [zi_add, zi_sub, zi_mul, zi_neg, zi_and1, zi_and7, zi_and15, zi_and31, zi_and255]) ?_
      have hl88 : hq40.2.2.2.1 cq40_0 = hq40.2.2.2.1 cq40_0 := congrFun sS57.2.2.2.2.1 cq40_0
      refine gz_call rfl (by decide) rfl (by decide) (by decide) (gcal_of rfl rfl rfl (Nat.le_of_ble_eq_true rfl) (gJ.recv (G := gGG) sS57.1 t42 rfl rfl)) (cw_putPlain _ sS57.1 x t42 (((z3 / 2 ^ (lw).toNat) - bf) - 1) ⟨by omega, by omega⟩ zq21 ⟨by omega, by omega⟩ sk s47 t43 cq40_0 ecq40_0 tcq40_0 fq40_0 efq40_0 ⟨by omega, by omega⟩ fq40_1 efq40_1 ⟨by omega, by omega⟩ fq40_2 efq40_2 ⟨by omega, by omega⟩ cg s48 ⟨by omega, by omega⟩ (ewS ec96 zq21 sg) (by omega) (by omega) (by omega) (by omega) (by omega) uq56 yq40_0 yq40_1) (fun q89 _ wq89 => ?_)
      obtain ⟨pq89, oq89, hq89⟩ := q89
      obtain ⟨tyq89, xq89, cq89_0, ttq89, fq89_0, fq89_1, fq89_2, ecq89_0, tcq89_0, gq89, efq89_0, afq89_0, bfq89_0, efq89_1, afq89_1, bfq89_1, efq89_2, afq89_2, bfq89_2, uq89_0, uq89_1, uq89_2, uq89_3, uq89_4, uq89_5, uq89_6, uq89_7, uq89_8, yq89_0, yq89_1⟩ := wq89
      dsimp only at uq89_5 uq89_6 uq89_7 uq89_8
      refine ⟨_, gq89, ?_⟩
      show gz gPP gGG gcn _ _ 70 [some (.ref x), some (.int (zi p)), some (.int (zi (z3 / 2 ^ (lw).toNat))), some (.int (zi ((z3 / 2 ^ (lw).toNat) - bf))), some (.int (zi zq21))] [] hq89 _
      have G90 : gSg [114] [] [56000, 56001, 56002, 56003, 71012, 114999] ty h tyq89 hq89 := gSg.tr (gSg.ss G41 sS57 (by decide)) xq89 (by decide) (by decide) (fun x hx => by cases hx)
      have t91 : tyq89 x = 71 := gSg.typ xq89 sS57.1 t42 rfl
      have t92 : tyq89 sk = 56 := gSg.typ xq89 sS57.1 t43 rfl
      have t93 : tyq89 bt = 114 := gSg.typ xq89 sS57.1 t44 rfl
      have hl94 : hq89.2.2.2.1 bt = hq40.2.2.2.1 bt := gSg.len xq89 sS57.1 t44 rfl
      have t95 : tyq89 c1 = 73 := gSg.typ xq89 sS57.1 t46 rfl
      have t96 : tyq89 cq40_0 = 114 := gSg.typ xq89 sS57.1 tcq40_0 rfl
      have hl97 : hq89.2.2.2.1 cq40_0 = hq40.2.2.2.1 cq40_0 := gSg.len xq89 sS57.1 tcq40_0 rfl
      have s98 := gSg.at xq89 sS57.1 t42 rfl (by decide) s47
      have s99 := gSg.at xq89 sS57.1 t42 rfl (by decide) s48
      have s100 := gSg.at xq89 sS57.1 t42 rfl (by decide) s49
      have s101 := gSg.at xq89 sS57.1 t42 rfl (by decide) s50
      have s102 := gSg.at xq89 sS57.1 t42 rfl (by decide) s51
      have s103 := gSg.at xq89 sS57.1 t42 rfl (by decide) s52
      have s104 := gSg.at xq89 sS57.1 t42 rfl (by decide) s53
      have pr105 := gRn.gr xq89 sS57.1 rfl (by decide) (by decide) pr54
      have pr106 := gTab.gr xq89 sS57.1 rfl rfl (fun _ => rfl) (fun _ => rfl) (by decide) (by decide) (by decide) (by decide) pr55
      have uq107 := gSg.uq xq89 uq56 (by decide)
      have sS108 : gSs rT 1027 tyq89 [56000, 56001, 56002, 56003, 71012, 114999] hq89 hq89 := gSs.rf xq89.1
      have hF : eeFi (ewS ec96) eeN lw hg (cf (p).toNat) bf sg = (z3 / 2 ^ (lw).toNat, eeN (((z3 / 2 ^ (lw).toNat) - bf) - 1) (Int.toNat zq21) (ewS ec96 zq21 sg)) := by rw [hf4]; exact eeFi_n (x := z3 / 2 ^ (lw).toNat) (s := zq21) (by omega) rfl (by omega) (by omega)
      have hk109 : (eeFi (ewS ec96) eeN lw hg (cf (p).toNat) bf sg).2 = eeN (((z3 / 2 ^ (lw).toNat) - bf) - 1) (Int.toNat zq21) (ewS ec96 zq21 sg) := by rw [hF]
      have hk109_1 : ((eeFi (ewS ec96) eeN lw hg (cf (p).toNat) bf sg).2).1 = (eeN (((z3 / 2 ^ (lw).toNat) - bf) - 1) (Int.toNat zq21) (ewS ec96 zq21 sg)).1 := by rw [hk109]
      have hk109_21 : ((eeFi (ewS ec96) eeN lw hg (cf (p).toNat) bf sg).2).2.1 = (eeN (((z3 / 2 ^ (lw).toNat) - bf) - 1) (Int.toNat zq21) (ewS ec96 zq21 sg)).2.1 := by rw [hk109]
      have hk109_221 : ((eeFi (ewS ec96) eeN lw hg (cf (p).toNat) bf sg).2).2.2.1 = (eeN (((z3 / 2 ^ (lw).toNat) - bf) - 1) (Int.toNat zq21) (ewS ec96 zq21 sg)).2.2.1 := by rw [hk109]
      have hsw110 : gSW tyq89 cq89_0 ((eeFi (ewS ec96) eeN lw hg (cf (p).toNat) bf sg).2) hq89 := by rw [hk109]; exact yq89_0
      have hok111 : eeOk ((eeFi (ewS ec96) eeN lw hg (cf (p).toNat) bf sg).2) := by rw [hk109]; exact yq89_1
      have hoc112 := hok111.cur
      have hF1 : (eeFi (ewS ec96) eeN lw hg (cf (p).toNat) bf sg).1 = z3 / 2 ^ (lw).toNat := by rw [hF]
      have hl113 : 1024 ≤ hq89.2.2.2.1 bt ∧ hq89.2.2.2.1 bt ≤ 1000000 := gJ.rowl (G := gGG) sS108.1 t93 rfl
      have hl114 : 1024 ≤ hq89.2.2.2.1 cq40_0 ∧ hq89.2.2.2.1 cq40_0 ≤ 1000000 := gJ.rowl (G := gGG) sS108.1 t96 rfl
      have hl115 : 1024 ≤ hq89.2.2.2.1 cq89_0 ∧ hq89.2.2.2.1 cq89_0 ≤ 1000000 := gJ.rowl (G := gGG) sS108.1 tcq89_0 rfl
      have G116 : gSg [114] [] [56000, 56001, 56002, 56003, 71012, 114999] ty h tyq89 hq89 := gSg.ss G90 sS108 (by decide)
      exact gz_end (I := .return_) (len := 1) rfl (Or.inl rfl) ⟨tyq89, G116, cq89_0, trivial, fq89_0, fq89_1, fq89_2, z3 / 2 ^ (lw).toNat, ecq89_0, tcq89_0, rfl, efq89_0, (by omega), (by omega), efq89_1, (by omega), (by omega), efq89_2, (by omega), (by omega), s104, (by omega), (by omega), (by omega), (by omega), (by omega), (by omega), (by omega), (by dsimp only; omega), (by dsimp only; omega), (by dsimp only; omega), (by omega), (by dsimp only; omega), hsw110, hok111⟩
  · refine gy_ifF rfl (by decide) (by decide) (by omega) hc6 ?_
    refine gy_s 5 (pc' := 24) (L' := [some (.ref x), some (.int (zi p)), some (.int (zi (z3 / 2 ^ (lw).toNat))), none, none]) (S' := [.int (zi 1), .int ((zi (z3 / 2 ^ (lw).toNat)) &&& (zi 1)), .ref x]) (L2 := [some (.ref x), some (.int (zi p)), some (.int (zi (z3 / 2 ^ (lw).toNat))), none, none]) (S2 := [.int (zi 1), .int (zi ((z3 / 2 ^ (lw).toNat) % 2)), .ref x]) rfl (by simp only [zi_add, zi_sub, zi_mul, zi_neg, zi_and1, zi_and7, zi_and15, zi_and31, zi_and255]) (by simp only [zi_add, zi_sub, zi_mul, zi_neg, zi_and1, zi_and7, zi_and15, zi_and31, zi_and255]) ?_
    have hl117 : h.2.2.2.1 bt = h.2.2.2.1 bt := congrFun hS.2.2.2.2.1 bt
    refine gz_call rfl (by decide) rfl (by decide) (by decide) (gcal_of rfl rfl rfl (Nat.le_of_ble_eq_true rfl) (gJ.recv (G := gGG) hS.1 tx rfl rfl)) (cw_putPlain _ hS.1 x tx ((z3 / 2 ^ (lw).toNat) % 2) ⟨by omega, by omega⟩ 1 ⟨by omega, by omega⟩ sk esk tsk bt ebt tbt c0 ec0 ⟨by omega, by omega⟩ u0 eu0 ⟨by omega, by omega⟩ h0 eh0 ⟨by omega, by omega⟩ cg ecg ⟨by omega, by omega⟩ sg (by omega) (by omega) (by omega) (by omega) (by omega) uq hysw hyok) (fun q118 _ wq118 => ?_)
    obtain ⟨pq118, oq118, hq118⟩ := q118
    obtain ⟨tyq118, xq118, cq118_0, ttq118, fq118_0, fq118_1, fq118_2, ecq118_0, tcq118_0, gq118, efq118_0, afq118_0, bfq118_0, efq118_1, afq118_1, bfq118_1, efq118_2, afq118_2, bfq118_2, uq118_0, uq118_1, uq118_2, uq118_3, uq118_4, uq118_5, uq118_6, uq118_7, uq118_8, yq118_0, yq118_1⟩ := wq118
    dsimp only at uq118_5 uq118_6 uq118_7 uq118_8
    refine ⟨_, gq118, ?_⟩
    show gz gPP gGG gcn _ _ 27 [some (.ref x), some (.int (zi p)), some (.int (zi (z3 / 2 ^ (lw).toNat))), none, none] [] hq118 _
    have G119 : gSg [114] [] [56000, 56001, 56002, 56003, 71012, 114999] ty h tyq118 hq118 := gSg.tr (gSg.ss G0 hS (by decide)) xq118 (by decide) (by decide) (fun x hx => by cases hx)
    have t120 : tyq118 x = 71 := gSg.typ xq118 hS.1 tx rfl
    have t121 : tyq118 sk = 56 := gSg.typ xq118 hS.1 tsk rfl
    have t122 : tyq118 bt = 114 := gSg.typ xq118 hS.1 tbt rfl
    have hl123 : hq118.2.2.2.1 bt = h.2.2.2.1 bt := gSg.len xq118 hS.1 tbt rfl
    have t124 : tyq118 c1 = 73 := gSg.typ xq118 hS.1 tc1 rfl
    have s125 := gSg.at xq118 hS.1 tx rfl (by decide) esk
    have s126 := gSg.at xq118 hS.1 tx rfl (by decide) ecg
    have s127 := gSg.at xq118 hS.1 tx rfl (by decide) elw
    have s128 := gSg.at xq118 hS.1 tx rfl (by decide) ehg
    have s129 := gSg.at xq118 hS.1 tx rfl (by decide) ebs
    have s130 := gSg.at xq118 hS.1 tx rfl (by decide) ebf
    have s131 := gSg.at xq118 hS.1 tx rfl (by decide) ec1
    have pr132 := gRn.gr xq118 hS.1 rfl (by decide) (by decide) hyf73
    have pr133 := gTab.gr xq118 hS.1 rfl rfl (fun _ => rfl) (fun _ => rfl) (by decide) (by decide) (by decide) (by decide) hytb96
    have uq134 := gSg.uq xq118 uq (by decide)
    have sS135 : gSs rT 1027 tyq118 [56000, 56001, 56002, 56003, 71012, 114999] hq118 hq118 := gSs.rf xq118.1
    have hF : eeFi (ewS ec96) eeN lw hg (cf (p).toNat) bf sg = (bf, eeN ((z3 / 2 ^ (lw).toNat) % 2) (Int.toNat 1) sg) := by rw [hf4]; exact eeFi_p (by omega)
    have hk136 : (eeFi (ewS ec96) eeN lw hg (cf (p).toNat) bf sg).2 = eeN ((z3 / 2 ^ (lw).toNat) % 2) (Int.toNat 1) sg := by rw [hF]
    have hk136_1 : ((eeFi (ewS ec96) eeN lw hg (cf (p).toNat) bf sg).2).1 = (eeN ((z3 / 2 ^ (lw).toNat) % 2) (Int.toNat 1) sg).1 := by rw [hk136]
    have hk136_21 : ((eeFi (ewS ec96) eeN lw hg (cf (p).toNat) bf sg).2).2.1 = (eeN ((z3 / 2 ^ (lw).toNat) % 2) (Int.toNat 1) sg).2.1 := by rw [hk136]
    have hk136_221 : ((eeFi (ewS ec96) eeN lw hg (cf (p).toNat) bf sg).2).2.2.1 = (eeN ((z3 / 2 ^ (lw).toNat) % 2) (Int.toNat 1) sg).2.2.1 := by rw [hk136]
    have hsw137 : gSW tyq118 cq118_0 ((eeFi (ewS ec96) eeN lw hg (cf (p).toNat) bf sg).2) hq118 := by rw [hk136]; exact yq118_0
    have hok138 : eeOk ((eeFi (ewS ec96) eeN lw hg (cf (p).toNat) bf sg).2) := by rw [hk136]; exact yq118_1
    have hoc139 := hok138.cur
    have hF1 : (eeFi (ewS ec96) eeN lw hg (cf (p).toNat) bf sg).1 = bf := by rw [hF]
    have hl140 : 1024 ≤ hq118.2.2.2.1 bt ∧ hq118.2.2.2.1 bt ≤ 1000000 := gJ.rowl (G := gGG) sS135.1 t122 rfl
    have hl141 : 1024 ≤ hq118.2.2.2.1 cq118_0 ∧ hq118.2.2.2.1 cq118_0 ≤ 1000000 := gJ.rowl (G := gGG) sS135.1 tcq118_0 rfl
    have G142 : gSg [114] [] [56000, 56001, 56002, 56003, 71012, 114999] ty h tyq118 hq118 := gSg.ss G119 sS135 (by decide)
    exact gz_end (I := .return_) (len := 1) rfl (Or.inl rfl) ⟨tyq118, G142, cq118_0, trivial, fq118_0, fq118_1, fq118_2, bf, ecq118_0, tcq118_0, rfl, efq118_0, (by omega), (by omega), efq118_1, (by omega), (by omega), efq118_2, (by omega), (by omega), s130, (by omega), (by omega), (by omega), (by omega), (by omega), (by omega), (by omega), (by dsimp only; omega), (by dsimp only; omega), (by dsimp only; omega), (by omega), (by dsimp only; omega), hsw137, hok138⟩
set_option maxRecDepth 20000 in
set_option maxHeartbeats 4000000 in
theorem cn_putOthers (d : Nat) {ty : Nat → Nat} {h : gH} (hJ : gJ rT 1027 ty h) (x : Nat) (tx : ty x = 71) (p : Int) (rp : 0 ≤ p ∧ p ≤ 960) (cg : Int) (ecg : h.2.2.2.2 x 11 = .int (zi cg)) (rcg : 1 ≤ cg ∧ cg ≤ 1) (fr : Int) (efr : h.2.2.2.2 x 7 = .int (zi fr)) (rfr : 0 ≤ fr ∧ fr ≤ 63) (tt : Int) (ett : h.2.2.2.2 x 8 = .int (zi tt)) (rtt : 0 ≤ tt ∧ tt ≤ 63) (lw : Int) (elw : h.2.2.2.2 x 10 = .int (zi lw)) (rlw : 0 ≤ lw ∧ lw ≤ 3) (bs : Int) (ebs : h.2.2.2.2 x 5 = .int (zi bs)) (rbs : 0 ≤ bs ∧ bs ≤ 16) (w cf : Nat → Int) (pp0 : p + 64 ≤ 64 * bs) (pp1 : fr ≤ tt) (pp2 : 1 ≤ tt) (uq : gUq ty) (hyf80 : gRn 257 ty 80 w h) (hywb : ewB w 50000) (hyf73 : gRn (64 * bs).toNat ty 73 cf h) : gz gPP gGG gcn (d + 2) gt120 0 (gent [.ref x, .int (zi p)] 7) [] h (fun q _ => gSs rT 1027 ty [80999] h q.2.2 ∧ gfin gt120 q.1 q.2.1 = some none ∧ (gRn 257 ty 80 (eeOt ecS ecP lw cf (p + (if 1 ≤ fr then fr else 1)).toNat (tt - (if 1 ≤ fr then fr else 1) + 1).toNat w) q.2.2)) := by
  have hS : gSs rT 1027 ty [80999] h h := gSs.rf hJ
  refine gz_s 4 (pc' := 4) (L' := [some (.ref x), some (.int (zi p)), some (.int (zi 0)), none, none, none, none]) (S' := [.ref x, .int (zi 1)]) rfl ?_
  refine gs_gtk rfl (by decide) rfl hS.1 tx rfl rfl efr ?_
  refine gz_call rfl (by decide) rfl (by decide) (by decide) (gcal_of rfl rfl rfl (Nat.le_of_ble_eq_true rfl) rfl) (cl_Math_max _ hS.1 1 ⟨by omega, by omega⟩ fr ⟨by omega, by omega⟩ ) (fun q1 _ wq1 => ?_)
  obtain ⟨pq1, oq1, hq1⟩ := q1
  obtain ⟨xq1, zq1, gq1, aq1, bq1, uq1_0, uq1_1, uq1_2⟩ := wq1
  refine ⟨_, gq1, ?_⟩
  show gz gPP gGG gcn _ _ 10 [some (.ref x), some (.int (zi p)), some (.int (zi 0)), none, none, none, none] [.int (zi zq1)] hq1 _
  have sq1 : gSs rT 1027 ty [80999] h hq1 := gSs.tr hS xq1 (by decide)
  have s2 := (xq1.2.2.2.2.2 x 11 (by rw [tx]; decide)).trans ecg
  have s3 := (xq1.2.2.2.2.2 x 7 (by rw [tx]; decide)).trans efr
  have s4 := (xq1.2.2.2.2.2 x 8 (by rw [tx]; decide)).trans ett
  have s5 := (xq1.2.2.2.2.2 x 10 (by rw [tx]; decide)).trans elw
  have s6 := (xq1.2.2.2.2.2 x 5 (by rw [tx]; decide)).trans ebs
  have pr7 := gRn.fr xq1.2 (by decide) hyf80
  have pr8 := gRn.fr xq1.2 (by decide) hyf73
  refine gz_s 1 (pc' := 11) (L' := [some (.ref x), some (.int (zi p)), some (.int (zi 0)), some (.int (zi zq1)), none, none, none]) (S' := []) rfl ?_
  have hk10 : (eeO ecS ecP lw cf (p + (if 1 ≤ fr then fr else 1)).toNat w (zq1 - (if 1 ≤ fr then fr else 1)).toNat).2 = w := by rw [show (zq1 - (if 1 ≤ fr then fr else 1)).toNat = 0 by omega]; rfl
  have hrw11 : gRn 257 ty 80 ((eeO ecS ecP lw cf (p + (if 1 ≤ fr then fr else 1)).toNat w (zq1 - (if 1 ≤ fr then fr else 1)).toNat).2) hq1 := by rw [hk10]; exact pr7
  have lp9 : ∀ (fu : Nat) (h12 : gH) (rn : Int) (k : Int), (65 - k).toNat < fu → gSs rT 1027 ty [80999] h h12 → (0 ≤ rn ∧ rn ≤ 63) → (1 ≤ k ∧ k ≤ 64) → (rn = (eeO ecS ecP lw cf (p + (if 1 ≤ fr then fr else 1)).toNat w (k - (if 1 ≤ fr then fr else 1)).toNat).1) → ((if 1 ≤ fr then fr else 1) ≤ k) → (k ≤ tt + 1) → (rn ≤ k - (if 1 ≤ fr then fr else 1)) → h12.2.2.2.2 x 11 = .int (zi cg) → h12.2.2.2.2 x 7 = .int (zi fr) → h12.2.2.2.2 x 8 = .int (zi tt) → h12.2.2.2.2 x 10 = .int (zi lw) → h12.2.2.2.2 x 5 = .int (zi bs) → gRn (64 * bs).toNat ty 73 cf h12 → gRn 257 ty 80 ((eeO ecS ecP lw cf (p + (if 1 ≤ fr then fr else 1)).toNat w (k - (if 1 ≤ fr then fr else 1)).toNat).2) h12 → gz gPP gGG gcn (d + 2) gt120 11 [some (.ref x), some (.int (zi p)), some (.int (zi rn)), some (.int (zi k)), none, none, none] [] h12 (fun q _ => gSs rT 1027 ty [80999] h q.2.2 ∧ gfin gt120 q.1 q.2.1 = some none ∧ (gRn 257 ty 80 (eeOt ecS ecP lw cf (p + (if 1 ≤ fr then fr else 1)).toNat (tt - (if 1 ≤ fr then fr else 1) + 1).toNat w) q.2.2)) := by
    intro fu
    induction fu with
    | zero => intro h12 rn k hm; exact absurd hm (Nat.not_lt_zero _)
    | succ fu ihlp9 =>
      intro h12 rn k lp9m sh12 lp9f0 lp9f1 lp9f2 lp9f3 lp9f4 lp9f5 lp9k0 lp9k1 lp9k2 lp9k3 lp9k4 lp9k5 lp9k6
      refine gz_s 2 (pc' := 13) (L' := [some (.ref x), some (.int (zi p)), some (.int (zi rn)), some (.int (zi k)), none, none, none]) (S' := [.ref x, .int (zi k)]) rfl ?_
      refine gs_gtk rfl (by decide) rfl sh12.1 tx rfl rfl lp9k2 ?_
      by_cases hc13 : (tt : Int) < k
      · refine gy_icT (pc' := 120) rfl (by decide) (by decide) (by omega) (by omega) hc13 ?_
        refine gz_s 1 (pc' := 121) (L' := [some (.ref x), some (.int (zi p)), some (.int (zi rn)), some (.int (zi k)), none, none, none]) (S' := [.int (zi rn)]) rfl ?_
        by_cases hc14 : (rn : Int) ≤ 0
        · refine gy_ifT (pc' := 130) rfl (by decide) (by decide) (by omega) hc14 ?_
          have hkt : (k - (if 1 ≤ fr then fr else 1)).toNat = (tt - (if 1 ≤ fr then fr else 1) + 1).toNat := by omega
          have hr9 : (eeO ecS ecP lw cf (p + (if 1 ≤ fr then fr else 1)).toNat w (k - (if 1 ≤ fr then fr else 1)).toNat).1 = rn := by omega
          rw [hkt] at hr9
          have hk15 : eeOt ecS ecP lw cf (p + (if 1 ≤ fr then fr else 1)).toNat (tt - (if 1 ≤ fr then fr else 1) + 1).toNat w = (eeO ecS ecP lw cf (p + (if 1 ≤ fr then fr else 1)).toNat w (k - (if 1 ≤ fr then fr else 1)).toNat).2 := by rw [hkt]; exact eeOt_n (by omega)
          have hrw16 : gRn 257 ty 80 (eeOt ecS ecP lw cf (p + (if 1 ≤ fr then fr else 1)).toNat (tt - (if 1 ≤ fr then fr else 1) + 1).toNat w) h12 := by rw [hk15]; exact lp9k6
          exact gz_end (I := .return_) (len := 1) rfl (Or.inl rfl) ⟨sh12, rfl, hrw16⟩
        · refine gy_ifF rfl (by decide) (by decide) (by omega) hc14 ?_
          have hwb17 : ewB ((eeO ecS ecP lw cf (p + (if 1 ≤ fr then fr else 1)).toNat w (k - (if 1 ≤ fr then fr else 1)).toNat).2) 90000 := (ewB.O (lw := lw) (cf := cf) (b := (p + (if 1 ≤ fr then fr else 1)).toNat) hywb (k - (if 1 ≤ fr then fr else 1)).toNat).1.mono (by omega)
          refine gz_s 3 (pc' := 127) (L' := [some (.ref x), some (.int (zi p)), some (.int (zi rn)), some (.int (zi k)), none, none, none]) (S' := [.int (zi 0), .int (zi 1), .ref x]) rfl ?_
          refine gz_call rfl (by decide) rfl (by decide) (by decide) (gcal_of rfl rfl rfl (Nat.le_of_ble_eq_true rfl) (gJ.recv (G := gGG) sh12.1 tx rfl rfl)) (cn_putSymbol1 _ sh12.1 x tx 1 ⟨by omega, by omega⟩ 0 ⟨by omega, by omega⟩ cg lp9k0 ⟨by omega, by omega⟩ ((eeO ecS ecP lw cf (p + (if 1 ≤ fr then fr else 1)).toNat w (k - (if 1 ≤ fr then fr else 1)).toNat).2) uq lp9k6 hwb17) (fun q18 _ wq18 => ?_)
          obtain ⟨pq18, oq18, hq18⟩ := q18
          obtain ⟨xq18, gq18, yq18_0⟩ := wq18
          refine ⟨_, gq18, ?_⟩
          show gz gPP gGG gcn _ _ 130 [some (.ref x), some (.int (zi p)), some (.int (zi rn)), some (.int (zi k)), none, none, none] [] hq18 _
          have sq18 : gSs rT 1027 ty [80999] h hq18 := gSs.tr sh12 xq18 (by decide)
          have s19 := (xq18.2.2.2.2.2 x 11 (by rw [tx]; decide)).trans lp9k0
          have s20 := (xq18.2.2.2.2.2 x 7 (by rw [tx]; decide)).trans lp9k1
          have s21 := (xq18.2.2.2.2.2 x 8 (by rw [tx]; decide)).trans lp9k2
          have s22 := (xq18.2.2.2.2.2 x 10 (by rw [tx]; decide)).trans lp9k3
          have s23 := (xq18.2.2.2.2.2 x 5 (by rw [tx]; decide)).trans lp9k4
          have pr24 := gRn.fr xq18.2 (by decide) lp9k5
          have hkt : (k - (if 1 ≤ fr then fr else 1)).toNat = (tt - (if 1 ≤ fr then fr else 1) + 1).toNat := by omega
          have hr9 : (eeO ecS ecP lw cf (p + (if 1 ≤ fr then fr else 1)).toNat w (k - (if 1 ≤ fr then fr else 1)).toNat).1 = rn := by omega
          rw [hkt] at hr9
          have hk25 : eeOt ecS ecP lw cf (p + (if 1 ≤ fr then fr else 1)).toNat (tt - (if 1 ≤ fr then fr else 1) + 1).toNat w = ecS 0 ((eeO ecS ecP lw cf (p + (if 1 ≤ fr then fr else 1)).toNat w (k - (if 1 ≤ fr then fr else 1)).toNat).2) := by rw [hkt]; exact eeOt_p (by omega)
          have hrw26 : gRn 257 ty 80 (eeOt ecS ecP lw cf (p + (if 1 ≤ fr then fr else 1)).toNat (tt - (if 1 ≤ fr then fr else 1) + 1).toNat w) hq18 := by rw [hk25]; exact yq18_0
          exact gz_end (I := .return_) (len := 1) rfl (Or.inl rfl) ⟨sq18, rfl, hrw26⟩
      · refine gy_icF rfl (by decide) (by decide) (by omega) (by omega) hc13 ?_
        refine gz_s 1 (pc' := 20) (L' := [some (.ref x), some (.int (zi p)), some (.int (zi rn)), some (.int (zi k)), none, none, none]) (S' := [.ref x]) rfl ?_
        refine gs_gtr rfl (by decide) rfl sh12.1 tx rfl rfl rfl (fun c27 ec27 tc27 => ?_)
        refine gy_s 3 (pc' := 26) (L' := [some (.ref x), some (.int (zi p)), some (.int (zi rn)), some (.int (zi k)), none, none, none]) (S' := [.int ((zi p) + (zi k)), .ref c27]) (L2 := [some (.ref x), some (.int (zi p)), some (.int (zi rn)), some (.int (zi k)), none, none, none]) (S2 := [.int (zi (p + k)), .ref c27]) rfl (by simp only [zi_add, zi_sub, zi_mul, zi_neg, zi_and1, zi_and7, zi_and15, zi_and31, zi_and255]) (by simp only [zi_add, zi_sub, zi_mul, zi_neg, zi_and1, zi_and7, zi_and15, zi_and31, zi_and255]) ?_
        have hl28 : 1024 ≤ h12.2.2.2.1 c27 ∧ h12.2.2.2.1 c27 ≤ 1024 := gJ.rowl (G := gGG) sh12.1 tc27 rfl
        refine gs_ald rfl (by decide) sh12.1 tc27 rfl rfl rfl (by decide) (fun _ => rfl) (by omega) (by omega) (fun z29 ez29 az29 bz29 => ?_)
        have hf30 := gRn.at (i := p + k) (z := z29) lp9k5 tc27 ez29 (by omega) (by omega) (by omega)
        have hbj : (p + (if 1 ≤ fr then fr else 1)).toNat + (k - (if 1 ≤ fr then fr else 1)).toNat = (p + k).toNat := by omega
        have hcf : cf ((p + (if 1 ≤ fr then fr else 1)).toNat + (k - (if 1 ≤ fr then fr else 1)).toNat) = z29 := by rw [hbj]; exact hf30
        have hkj : (k + 1 - (if 1 ≤ fr then fr else 1)).toNat = (k - (if 1 ≤ fr then fr else 1)).toNat + 1 := by omega
        refine gz_s 2 (pc' := 31) (L' := [some (.ref x), some (.int (zi p)), some (.int (zi rn)), some (.int (zi k)), some (.int (zi z29)), none, none]) (S' := [.int (zi z29)]) rfl ?_
        refine gz_call rfl (by decide) rfl (by decide) (by decide) (gcal_of rfl rfl rfl (Nat.le_of_ble_eq_true rfl) rfl) (cl_Math_abs _ sh12.1 z29 ⟨by omega, by omega⟩ ) (fun q31 _ wq31 => ?_)
        obtain ⟨pq31, oq31, hq31⟩ := q31
        obtain ⟨xq31, zq31, gq31, aq31, bq31, uq31_0, uq31_1⟩ := wq31
        refine ⟨_, gq31, ?_⟩
        show gz gPP gGG gcn _ _ 34 [some (.ref x), some (.int (zi p)), some (.int (zi rn)), some (.int (zi k)), some (.int (zi z29)), none, none] [.int (zi zq31)] hq31 _
        have sq31 : gSs rT 1027 ty [80999] h hq31 := gSs.tr sh12 xq31 (by decide)
        have s32 := (xq31.2.2.2.2.2 x 11 (by rw [tx]; decide)).trans lp9k0
        have s33 := (xq31.2.2.2.2.2 x 7 (by rw [tx]; decide)).trans lp9k1
        have s34 := (xq31.2.2.2.2.2 x 8 (by rw [tx]; decide)).trans lp9k2
        have s35 := (xq31.2.2.2.2.2 x 10 (by rw [tx]; decide)).trans lp9k3
        have s36 := (xq31.2.2.2.2.2 x 5 (by rw [tx]; decide)).trans lp9k4
        have s37 := (xq31.2.2.2.2.2 x 2 (by rw [tx]; decide)).trans ec27
        have pr38 := gRn.fr xq31.2 (by decide) lp9k5
        have pr39 := gRn.fr xq31.2 (by decide) lp9k6
        have hA : zq31 = eeA z29 := eeA_of (by omega) (by omega)
        refine gz_s 1 (pc' := 35) (L' := [some (.ref x), some (.int (zi p)), some (.int (zi rn)), some (.int (zi k)), some (.int (zi z29)), none, none]) (S' := [.ref x, .int (zi zq31)]) rfl ?_
        refine gs_gtk rfl (by decide) rfl sq31.1 tx rfl rfl s35 ?_
        refine gy_shr rfl (by decide) (by omega) (by omega) ?_
        have hx40 := zsh_b (a := zq31) (n := lw) (by omega)
        refine gz_s 2 (pc' := 43) (L' := [some (.ref x), some (.int (zi p)), some (.int (zi rn)), some (.int (zi k)), some (.int (zi z29)), some (.int (zi (zq31 / 2 ^ (lw).toNat))), none]) (S' := [.int (zi (zq31 / 2 ^ (lw).toNat))]) rfl ?_
        by_cases hc41 : ¬ (zq31 / 2 ^ (lw).toNat : Int) = 0
        · refine gy_ifT (pc' := 52) rfl (by decide) (by decide) (by omega) hc41 ?_
          have hk43 : eeZ ecS (eeO ecS ecP lw cf (p + (if 1 ≤ fr then fr else 1)).toNat w (k - (if 1 ≤ fr then fr else 1)).toNat).2 ((rn - rn) / 16).toNat = (eeO ecS ecP lw cf (p + (if 1 ≤ fr then fr else 1)).toNat w (k - (if 1 ≤ fr then fr else 1)).toNat).2 := by rw [show ((rn - rn) / 16).toNat = 0 by omega]; rfl
          have hrw44 : gRn 257 ty 80 (eeZ ecS (eeO ecS ecP lw cf (p + (if 1 ≤ fr then fr else 1)).toNat w (k - (if 1 ≤ fr then fr else 1)).toNat).2 ((rn - rn) / 16).toNat) hq31 := by rw [hk43]; exact pr39
          have lp42 : ∀ (fu : Nat) (h45 : gH) (rn2 : Int), (rn2).toNat < fu → gSs rT 1027 ty [80999] h h45 → (0 ≤ rn2 ∧ rn2 ≤ 63) → (rn2 ≤ rn) → ((rn - rn2) % 16 = 0) → h45.2.2.2.2 x 11 = .int (zi cg) → h45.2.2.2.2 x 7 = .int (zi fr) → h45.2.2.2.2 x 8 = .int (zi tt) → h45.2.2.2.2 x 10 = .int (zi lw) → h45.2.2.2.2 x 5 = .int (zi bs) → h45.2.2.2.2 x 2 = .ref c27 → gRn (64 * bs).toNat ty 73 cf h45 → gRn 257 ty 80 (eeZ ecS (eeO ecS ecP lw cf (p + (if 1 ≤ fr then fr else 1)).toNat w (k - (if 1 ≤ fr then fr else 1)).toNat).2 ((rn - rn2) / 16).toNat) h45 → gz gPP gGG gcn (d + 2) gt120 52 [some (.ref x), some (.int (zi p)), some (.int (zi rn2)), some (.int (zi k)), some (.int (zi z29)), some (.int (zi (zq31 / 2 ^ (lw).toNat))), none] [] h45 (fun q _ => gSs rT 1027 ty [80999] h q.2.2 ∧ gfin gt120 q.1 q.2.1 = some none ∧ (gRn 257 ty 80 (eeOt ecS ecP lw cf (p + (if 1 ≤ fr then fr else 1)).toNat (tt - (if 1 ≤ fr then fr else 1) + 1).toNat w) q.2.2)) := by
            intro fu
            induction fu with
            | zero => intro h45 rn2 hm; exact absurd hm (Nat.not_lt_zero _)
            | succ fu ihlp42 =>
              intro h45 rn2 lp42m sh45 lp42f0 lp42f1 lp42f2 lp42k0 lp42k1 lp42k2 lp42k3 lp42k4 lp42k5 lp42k6 lp42k7
              refine gz_s 2 (pc' := 55) (L' := [some (.ref x), some (.int (zi p)), some (.int (zi rn2)), some (.int (zi k)), some (.int (zi z29)), some (.int (zi (zq31 / 2 ^ (lw).toNat))), none]) (S' := [.int (zi 15), .int (zi rn2)]) rfl ?_
              by_cases hc46 : (rn2 : Int) ≤ 15
              · refine gy_icT (pc' := 72) rfl (by decide) (by decide) (by omega) (by omega) hc46 ?_
                refine gz_s 1 (pc' := 74) (L' := [some (.ref x), some (.int (zi p)), some (.int (zi rn2)), some (.int (zi k)), some (.int (zi z29)), some (.int (zi (zq31 / 2 ^ (lw).toNat))), none]) (S' := [.int (zi (zq31 / 2 ^ (lw).toNat))]) rfl ?_
                refine gz_call rfl (by decide) rfl (by decide) (by decide) (gcal_of rfl rfl rfl (Nat.le_of_ble_eq_true rfl) rfl) (cw_bitsOf _ sh45.1 (zq31 / 2 ^ (lw).toNat) ⟨by omega, by omega⟩ uq) (fun q47 _ wq47 => ?_)
                obtain ⟨pq47, oq47, hq47⟩ := q47
                obtain ⟨xq47, zq47, gq47, aq47, bq47, uq47_0⟩ := wq47
                refine ⟨_, gq47, ?_⟩
                show gz gPP gGG gcn _ _ 77 [some (.ref x), some (.int (zi p)), some (.int (zi rn2)), some (.int (zi k)), some (.int (zi z29)), some (.int (zi (zq31 / 2 ^ (lw).toNat))), none] [.int (zi zq47)] hq47 _
                have sq47 : gSs rT 1027 ty [80999] h hq47 := gSs.tr sh45 xq47 (by decide)
                have s48 := (xq47.2.2.2.2.2 x 11 (by rw [tx]; decide)).trans lp42k0
                have s49 := (xq47.2.2.2.2.2 x 7 (by rw [tx]; decide)).trans lp42k1
                have s50 := (xq47.2.2.2.2.2 x 8 (by rw [tx]; decide)).trans lp42k2
                have s51 := (xq47.2.2.2.2.2 x 10 (by rw [tx]; decide)).trans lp42k3
                have s52 := (xq47.2.2.2.2.2 x 5 (by rw [tx]; decide)).trans lp42k4
                have s53 := (xq47.2.2.2.2.2 x 2 (by rw [tx]; decide)).trans lp42k5
                have pr54 := gRn.fr xq47.2 (by decide) lp42k6
                have pr55 := gRn.fr xq47.2 (by decide) lp42k7
                have hbz : zq47 = eeL (zq31 / 2 ^ (lw).toNat) := by have h9 := uq47_0; rw [eeA_nn (by omega)] at h9; exact h9
                have hlb := eeL_b (zq31 / 2 ^ (lw).toNat)
                refine gz_s 1 (pc' := 79) (L' := [some (.ref x), some (.int (zi p)), some (.int (zi rn2)), some (.int (zi k)), some (.int (zi z29)), some (.int (zi (zq31 / 2 ^ (lw).toNat))), some (.int (zi zq47))]) (S' := []) rfl ?_
                have hwb56 : ewB (eeZ ecS (eeO ecS ecP lw cf (p + (if 1 ≤ fr then fr else 1)).toNat w (k - (if 1 ≤ fr then fr else 1)).toNat).2 ((rn - rn2) / 16).toNat) 90000 := ((ewB.O (lw := lw) (cf := cf) (b := (p + (if 1 ≤ fr then fr else 1)).toNat) hywb (k - (if 1 ≤ fr then fr else 1)).toNat).1.z ((rn - rn2) / 16).toNat).mono (by omega)
                refine gy_s 7 (pc' := 88) (L' := [some (.ref x), some (.int (zi p)), some (.int (zi rn2)), some (.int (zi k)), some (.int (zi z29)), some (.int (zi (zq31 / 2 ^ (lw).toNat))), some (.int (zi zq47))]) (S' := [.int (((zi 16) * (zi rn2)) + (zi zq47)), .int (zi 1), .ref x]) (L2 := [some (.ref x), some (.int (zi p)), some (.int (zi rn2)), some (.int (zi k)), some (.int (zi z29)), some (.int (zi (zq31 / 2 ^ (lw).toNat))), some (.int (zi zq47))]) (S2 := [.int (zi ((16 * rn2) + zq47)), .int (zi 1), .ref x]) rfl (by simp only [zi_add, zi_sub, zi_mul, zi_neg, zi_and1, zi_and7, zi_and15, zi_and31, zi_and255]) (by simp only [zi_add, zi_sub, zi_mul, zi_neg, zi_and1, zi_and7, zi_and15, zi_and31, zi_and255]) ?_
                refine gz_call rfl (by decide) rfl (by decide) (by decide) (gcal_of rfl rfl rfl (Nat.le_of_ble_eq_true rfl) (gJ.recv (G := gGG) sq47.1 tx rfl rfl)) (cn_putSymbol1 _ sq47.1 x tx 1 ⟨by omega, by omega⟩ ((16 * rn2) + zq47) ⟨by omega, by omega⟩ cg s48 ⟨by omega, by omega⟩ (eeZ ecS (eeO ecS ecP lw cf (p + (if 1 ≤ fr then fr else 1)).toNat w (k - (if 1 ≤ fr then fr else 1)).toNat).2 ((rn - rn2) / 16).toNat) uq pr55 hwb56) (fun q57 _ wq57 => ?_)
                obtain ⟨pq57, oq57, hq57⟩ := q57
                obtain ⟨xq57, gq57, yq57_0⟩ := wq57
                refine ⟨_, gq57, ?_⟩
                show gz gPP gGG gcn _ _ 91 [some (.ref x), some (.int (zi p)), some (.int (zi rn2)), some (.int (zi k)), some (.int (zi z29)), some (.int (zi (zq31 / 2 ^ (lw).toNat))), some (.int (zi zq47))] [] hq57 _
                have sq57 : gSs rT 1027 ty [80999] h hq57 := gSs.tr sq47 xq57 (by decide)
                have s58 := (xq57.2.2.2.2.2 x 11 (by rw [tx]; decide)).trans s48
                have s59 := (xq57.2.2.2.2.2 x 7 (by rw [tx]; decide)).trans s49
                have s60 := (xq57.2.2.2.2.2 x 8 (by rw [tx]; decide)).trans s50
                have s61 := (xq57.2.2.2.2.2 x 10 (by rw [tx]; decide)).trans s51
                have s62 := (xq57.2.2.2.2.2 x 5 (by rw [tx]; decide)).trans s52
                have s63 := (xq57.2.2.2.2.2 x 2 (by rw [tx]; decide)).trans s53
                have pr64 := gRn.fr xq57.2 (by decide) pr54
                refine gz_s 2 (pc' := 94) (L' := [some (.ref x), some (.int (zi p)), some (.int (zi rn2)), some (.int (zi k)), some (.int (zi z29)), some (.int (zi (zq31 / 2 ^ (lw).toNat))), some (.int (zi zq47))]) (S' := [.int (zi z29), .ref x]) rfl ?_
                by_cases hc65 : (0 : Int) ≤ z29
                · refine gy_ifT (pc' := 105) rfl (by decide) (by decide) (by omega) hc65 ?_
                  refine gz_s 2 (pc' := 109) (L' := [some (.ref x), some (.int (zi p)), some (.int (zi rn2)), some (.int (zi k)), some (.int (zi z29)), some (.int (zi (zq31 / 2 ^ (lw).toNat))), some (.int (zi zq47))]) (S' := [.int (zi zq47), .int (zi (zq31 / 2 ^ (lw).toNat)), .ref x]) rfl ?_
                  refine gz_call rfl (by decide) rfl (by decide) (by decide) (gcal_of rfl rfl rfl (Nat.le_of_ble_eq_true rfl) (gJ.recv (G := gGG) sq57.1 tx rfl rfl)) (cn_putPlain _ sq57.1 x tx (zq31 / 2 ^ (lw).toNat) ⟨by omega, by omega⟩ zq47 ⟨by omega, by omega⟩ cg s58 ⟨by omega, by omega⟩ uq) (fun q66 _ wq66 => ?_)
                  obtain ⟨pq66, oq66, hq66⟩ := q66
                  obtain ⟨xq66, gq66⟩ := wq66
                  refine ⟨_, gq66, ?_⟩
                  show gz gPP gGG gcn _ _ 112 [some (.ref x), some (.int (zi p)), some (.int (zi rn2)), some (.int (zi k)), some (.int (zi z29)), some (.int (zi (zq31 / 2 ^ (lw).toNat))), some (.int (zi zq47))] [] hq66 _
                  have sq66 : gSs rT 1027 ty [80999] h hq66 := gSs.tr sq57 xq66 (by decide)
                  have s67 := (xq66.2.2.2.2.2 x 11 (by rw [tx]; decide)).trans s58
                  have s68 := (xq66.2.2.2.2.2 x 7 (by rw [tx]; decide)).trans s59
                  have s69 := (xq66.2.2.2.2.2 x 8 (by rw [tx]; decide)).trans s60
                  have s70 := (xq66.2.2.2.2.2 x 10 (by rw [tx]; decide)).trans s61
                  have s71 := (xq66.2.2.2.2.2 x 5 (by rw [tx]; decide)).trans s62
                  have s72 := (xq66.2.2.2.2.2 x 2 (by rw [tx]; decide)).trans s63
                  have pr73 := gRn.fr xq66.2 (by decide) pr64
                  have pr74 := gRn.fr xq66.2 (by decide) yq57_0
                  refine gz_s 2 (pc' := 114) (L' := [some (.ref x), some (.int (zi p)), some (.int (zi 0)), some (.int (zi k)), some (.int (zi z29)), some (.int (zi (zq31 / 2 ^ (lw).toNat))), some (.int (zi zq47))]) (S' := []) rfl ?_
                  have hO : eeO ecS ecP lw cf (p + (if 1 ≤ fr then fr else 1)).toNat w ((k + 1) - (if 1 ≤ fr then fr else 1)).toNat = (0, ecS ((16 * rn2) + zq47) (eeZ ecS (eeO ecS ecP lw cf (p + (if 1 ≤ fr then fr else 1)).toNat w (k - (if 1 ≤ fr then fr else 1)).toNat).2 ((rn - rn2) / 16).toNat)) := by
                    rw [hkj, eeO_y (a := zq31 / 2 ^ (lw).toNat) (r := rn) (s := (16 * rn2) + zq47) (V := zq31 / 2 ^ (lw).toNat) (N := zq47) (m := ((rn - rn2) / 16).toNat) hcf (by rw [hA]) (by omega) (by omega) (by omega) (by omega) (by omega) (by omega)]; rfl
                  have hO1 : (eeO ecS ecP lw cf (p + (if 1 ≤ fr then fr else 1)).toNat w ((k + 1) - (if 1 ≤ fr then fr else 1)).toNat).1 = 0 := by rw [hO]
                  have hk75 : (eeO ecS ecP lw cf (p + (if 1 ≤ fr then fr else 1)).toNat w ((k + 1) - (if 1 ≤ fr then fr else 1)).toNat).2 = ecS ((16 * rn2) + zq47) (eeZ ecS (eeO ecS ecP lw cf (p + (if 1 ≤ fr then fr else 1)).toNat w (k - (if 1 ≤ fr then fr else 1)).toNat).2 ((rn - rn2) / 16).toNat) := by rw [hO]
                  have hrw76 : gRn 257 ty 80 ((eeO ecS ecP lw cf (p + (if 1 ≤ fr then fr else 1)).toNat w ((k + 1) - (if 1 ≤ fr then fr else 1)).toNat).2) hq66 := by rw [hk75]; exact pr74
                  refine gy_s 2 (pc' := 11) (L' := [some (.ref x), some (.int (zi p)), some (.int (zi 0)), some (.int ((zi k) + zi 1)), some (.int (zi z29)), some (.int (zi (zq31 / 2 ^ (lw).toNat))), some (.int (zi zq47))]) (S' := []) (L2 := [some (.ref x), some (.int (zi p)), some (.int (zi 0)), some (.int (zi (k + 1))), some (.int (zi z29)), some (.int (zi (zq31 / 2 ^ (lw).toNat))), some (.int (zi zq47))]) (S2 := []) rfl (by simp only [zi_add, zi_sub, zi_mul, zi_neg, zi_and1, zi_and7, zi_and15, zi_and31, zi_and255]) (by simp only [zi_add, zi_sub, zi_mul, zi_neg, zi_and1, zi_and7, zi_and15, zi_and31, zi_and255]) ?_
                  exact gz_wk (ihlp9 hq66 0 (k + 1) (by omega) sq66 (by omega) (by omega) (by omega) (by omega) (by omega) (by omega) s67 s68 s69 s70 s71 pr73 hrw76) (gLw.s (gLw.s (gLw.s (gLw.s (gLw.n (gLw.n (gLw.n gLw.z)))))))
                · refine gy_ifF rfl (by decide) (by decide) (by omega) hc65 ?_
                  refine gy_s 6 (pc' := 109) (L' := [some (.ref x), some (.int (zi p)), some (.int (zi rn2)), some (.int (zi k)), some (.int (zi z29)), some (.int (zi (zq31 / 2 ^ (lw).toNat))), some (.int (zi zq47))]) (S' := [.int (zi zq47), .int ((-(zi (zq31 / 2 ^ (lw).toNat))) - (zi 1)), .ref x]) (L2 := [some (.ref x), some (.int (zi p)), some (.int (zi rn2)), some (.int (zi k)), some (.int (zi z29)), some (.int (zi (zq31 / 2 ^ (lw).toNat))), some (.int (zi zq47))]) (S2 := [.int (zi zq47), .int (zi ((-(zq31 / 2 ^ (lw).toNat)) - 1)), .ref x]) rfl (by simp only [zi_add, zi_sub, zi_mul, zi_neg, zi_and1, zi_and7, zi_and15, zi_and31, zi_and255]) (by simp only [zi_add, zi_sub, zi_mul, zi_neg, zi_and1, zi_and7, zi_and15, zi_and31, zi_and255]) ?_
                  refine gz_call rfl (by decide) rfl (by decide) (by decide) (gcal_of rfl rfl rfl (Nat.le_of_ble_eq_true rfl) (gJ.recv (G := gGG) sq57.1 tx rfl rfl)) (cn_putPlain _ sq57.1 x tx ((-(zq31 / 2 ^ (lw).toNat)) - 1) ⟨by omega, by omega⟩ zq47 ⟨by omega, by omega⟩ cg s58 ⟨by omega, by omega⟩ uq) (fun q77 _ wq77 => ?_)
                  obtain ⟨pq77, oq77, hq77⟩ := q77
                  obtain ⟨xq77, gq77⟩ := wq77
                  refine ⟨_, gq77, ?_⟩
                  show gz gPP gGG gcn _ _ 112 [some (.ref x), some (.int (zi p)), some (.int (zi rn2)), some (.int (zi k)), some (.int (zi z29)), some (.int (zi (zq31 / 2 ^ (lw).toNat))), some (.int (zi zq47))] [] hq77 _
                  have sq77 : gSs rT 1027 ty [80999] h hq77 := gSs.tr sq57 xq77 (by decide)
                  have s78 := (xq77.2.2.2.2.2 x 11 (by rw [tx]; decide)).trans s58
                  have s79 := (xq77.2.2.2.2.2 x 7 (by rw [tx]; decide)).trans s59
                  have s80 := (xq77.2.2.2.2.2 x 8 (by rw [tx]; decide)).trans s60
                  have s81 := (xq77.2.2.2.2.2 x 10 (by rw [tx]; decide)).trans s61
                  have s82 := (xq77.2.2.2.2.2 x 5 (by rw [tx]; decide)).trans s62
                  have s83 := (xq77.2.2.2.2.2 x 2 (by rw [tx]; decide)).trans s63
                  have pr84 := gRn.fr xq77.2 (by decide) pr64
                  have pr85 := gRn.fr xq77.2 (by decide) yq57_0
                  refine gz_s 2 (pc' := 114) (L' := [some (.ref x), some (.int (zi p)), some (.int (zi 0)), some (.int (zi k)), some (.int (zi z29)), some (.int (zi (zq31 / 2 ^ (lw).toNat))), some (.int (zi zq47))]) (S' := []) rfl ?_
                  have hO : eeO ecS ecP lw cf (p + (if 1 ≤ fr then fr else 1)).toNat w ((k + 1) - (if 1 ≤ fr then fr else 1)).toNat = (0, ecS ((16 * rn2) + zq47) (eeZ ecS (eeO ecS ecP lw cf (p + (if 1 ≤ fr then fr else 1)).toNat w (k - (if 1 ≤ fr then fr else 1)).toNat).2 ((rn - rn2) / 16).toNat)) := by
                    rw [hkj, eeO_y (a := zq31 / 2 ^ (lw).toNat) (r := rn) (s := (16 * rn2) + zq47) (V := (-(zq31 / 2 ^ (lw).toNat)) - 1) (N := zq47) (m := ((rn - rn2) / 16).toNat) hcf (by rw [hA]) (by omega) (by omega) (by omega) (by omega) (by omega) (by omega)]; rfl
                  have hO1 : (eeO ecS ecP lw cf (p + (if 1 ≤ fr then fr else 1)).toNat w ((k + 1) - (if 1 ≤ fr then fr else 1)).toNat).1 = 0 := by rw [hO]
                  have hk86 : (eeO ecS ecP lw cf (p + (if 1 ≤ fr then fr else 1)).toNat w ((k + 1) - (if 1 ≤ fr then fr else 1)).toNat).2 = ecS ((16 * rn2) + zq47) (eeZ ecS (eeO ecS ecP lw cf (p + (if 1 ≤ fr then fr else 1)).toNat w (k - (if 1 ≤ fr then fr else 1)).toNat).2 ((rn - rn2) / 16).toNat) := by rw [hO]
                  have hrw87 : gRn 257 ty 80 ((eeO ecS ecP lw cf (p + (if 1 ≤ fr then fr else 1)).toNat w ((k + 1) - (if 1 ≤ fr then fr else 1)).toNat).2) hq77 := by rw [hk86]; exact pr85
                  refine gy_s 2 (pc' := 11) (L' := [some (.ref x), some (.int (zi p)), some (.int (zi 0)), some (.int ((zi k) + zi 1)), some (.int (zi z29)), some (.int (zi (zq31 / 2 ^ (lw).toNat))), some (.int (zi zq47))]) (S' := []) (L2 := [some (.ref x), some (.int (zi p)), some (.int (zi 0)), some (.int (zi (k + 1))), some (.int (zi z29)), some (.int (zi (zq31 / 2 ^ (lw).toNat))), some (.int (zi zq47))]) (S2 := []) rfl (by simp only [zi_add, zi_sub, zi_mul, zi_neg, zi_and1, zi_and7, zi_and15, zi_and31, zi_and255]) (by simp only [zi_add, zi_sub, zi_mul, zi_neg, zi_and1, zi_and7, zi_and15, zi_and31, zi_and255]) ?_
                  exact gz_wk (ihlp9 hq77 0 (k + 1) (by omega) sq77 (by omega) (by omega) (by omega) (by omega) (by omega) (by omega) s78 s79 s80 s81 s82 pr84 hrw87) (gLw.s (gLw.s (gLw.s (gLw.s (gLw.n (gLw.n (gLw.n gLw.z)))))))
              · refine gy_icF rfl (by decide) (by decide) (by omega) (by omega) hc46 ?_
                have hwb88 : ewB (eeZ ecS (eeO ecS ecP lw cf (p + (if 1 ≤ fr then fr else 1)).toNat w (k - (if 1 ≤ fr then fr else 1)).toNat).2 ((rn - rn2) / 16).toNat) 90000 := ((ewB.O (lw := lw) (cf := cf) (b := (p + (if 1 ≤ fr then fr else 1)).toNat) hywb (k - (if 1 ≤ fr then fr else 1)).toNat).1.z ((rn - rn2) / 16).toNat).mono (by omega)
                refine gz_s 3 (pc' := 63) (L' := [some (.ref x), some (.int (zi p)), some (.int (zi rn2)), some (.int (zi k)), some (.int (zi z29)), some (.int (zi (zq31 / 2 ^ (lw).toNat))), none]) (S' := [.int (zi 240), .int (zi 1), .ref x]) rfl ?_
                refine gz_call rfl (by decide) rfl (by decide) (by decide) (gcal_of rfl rfl rfl (Nat.le_of_ble_eq_true rfl) (gJ.recv (G := gGG) sh45.1 tx rfl rfl)) (cn_putSymbol1 _ sh45.1 x tx 1 ⟨by omega, by omega⟩ 240 ⟨by omega, by omega⟩ cg lp42k0 ⟨by omega, by omega⟩ (eeZ ecS (eeO ecS ecP lw cf (p + (if 1 ≤ fr then fr else 1)).toNat w (k - (if 1 ≤ fr then fr else 1)).toNat).2 ((rn - rn2) / 16).toNat) uq lp42k7 hwb88) (fun q89 _ wq89 => ?_)
                obtain ⟨pq89, oq89, hq89⟩ := q89
                obtain ⟨xq89, gq89, yq89_0⟩ := wq89
                refine ⟨_, gq89, ?_⟩
                show gz gPP gGG gcn _ _ 66 [some (.ref x), some (.int (zi p)), some (.int (zi rn2)), some (.int (zi k)), some (.int (zi z29)), some (.int (zi (zq31 / 2 ^ (lw).toNat))), none] [] hq89 _
                have sq89 : gSs rT 1027 ty [80999] h hq89 := gSs.tr sh45 xq89 (by decide)
                have s90 := (xq89.2.2.2.2.2 x 11 (by rw [tx]; decide)).trans lp42k0
                have s91 := (xq89.2.2.2.2.2 x 7 (by rw [tx]; decide)).trans lp42k1
                have s92 := (xq89.2.2.2.2.2 x 8 (by rw [tx]; decide)).trans lp42k2
                have s93 := (xq89.2.2.2.2.2 x 10 (by rw [tx]; decide)).trans lp42k3
                have s94 := (xq89.2.2.2.2.2 x 5 (by rw [tx]; decide)).trans lp42k4
                have s95 := (xq89.2.2.2.2.2 x 2 (by rw [tx]; decide)).trans lp42k5
                have pr96 := gRn.fr xq89.2 (by decide) lp42k6
                have hk97 : eeZ ecS (eeO ecS ecP lw cf (p + (if 1 ≤ fr then fr else 1)).toNat w (k - (if 1 ≤ fr then fr else 1)).toNat).2 ((rn - (rn2 + (-16))) / 16).toNat = ecS 240 (eeZ ecS (eeO ecS ecP lw cf (p + (if 1 ≤ fr then fr else 1)).toNat w (k - (if 1 ≤ fr then fr else 1)).toNat).2 ((rn - rn2) / 16).toNat) := eeZ_1 (by omega)
                have hrw98 : gRn 257 ty 80 (eeZ ecS (eeO ecS ecP lw cf (p + (if 1 ≤ fr then fr else 1)).toNat w (k - (if 1 ≤ fr then fr else 1)).toNat).2 ((rn - (rn2 + (-16))) / 16).toNat) hq89 := by rw [hk97]; exact yq89_0
                refine gy_s 2 (pc' := 52) (L' := [some (.ref x), some (.int (zi p)), some (.int ((zi rn2) + zi (-16))), some (.int (zi k)), some (.int (zi z29)), some (.int (zi (zq31 / 2 ^ (lw).toNat))), none]) (S' := []) (L2 := [some (.ref x), some (.int (zi p)), some (.int (zi (rn2 + (-16)))), some (.int (zi k)), some (.int (zi z29)), some (.int (zi (zq31 / 2 ^ (lw).toNat))), none]) (S2 := []) rfl (by simp only [zi_add, zi_sub, zi_mul, zi_neg, zi_and1, zi_and7, zi_and15, zi_and31, zi_and255]) (by simp only [zi_add, zi_sub, zi_mul, zi_neg, zi_and1, zi_and7, zi_and15, zi_and31, zi_and255]) ?_
                exact gz_wk (ihlp42 hq89 (rn2 + (-16)) (by omega) sq89 (by omega) (by omega) (by omega) s90 s91 s92 s93 s94 s95 pr96 hrw98) (gLw.s (gLw.s (gLw.s (gLw.s (gLw.s (gLw.s (gLw.n gLw.z)))))))
          exact gz_wk (lp42 _ hq31 rn (Nat.lt_succ_self _) sq31 (by omega) (by omega) (by omega) s32 s33 s34 s35 s36 s37 pr38 hrw44) (gLw.s (gLw.s (gLw.s (gLw.s (gLw.s (gLw.s (gLw.n gLw.z)))))))
        · refine gy_ifF rfl (by decide) (by decide) (by omega) hc41 ?_
          refine gy_s 2 (pc' := 114) (L' := [some (.ref x), some (.int (zi p)), some (.int ((zi rn) + zi 1)), some (.int (zi k)), some (.int (zi z29)), some (.int (zi (zq31 / 2 ^ (lw).toNat))), none]) (S' := []) (L2 := [some (.ref x), some (.int (zi p)), some (.int (zi (rn + 1))), some (.int (zi k)), some (.int (zi z29)), some (.int (zi (zq31 / 2 ^ (lw).toNat))), none]) (S2 := []) rfl (by simp only [zi_add, zi_sub, zi_mul, zi_neg, zi_and1, zi_and7, zi_and15, zi_and31, zi_and255]) (by simp only [zi_add, zi_sub, zi_mul, zi_neg, zi_and1, zi_and7, zi_and15, zi_and31, zi_and255]) ?_
          have hO : eeO ecS ecP lw cf (p + (if 1 ≤ fr then fr else 1)).toNat w ((k + 1) - (if 1 ≤ fr then fr else 1)).toNat = (rn + 1, (eeO ecS ecP lw cf (p + (if 1 ≤ fr then fr else 1)).toNat w (k - (if 1 ≤ fr then fr else 1)).toNat).2) := by rw [hkj, eeO_z hcf (by rw [← hA]; omega)]; rw [show (eeO ecS ecP lw cf (p + (if 1 ≤ fr then fr else 1)).toNat w (k - (if 1 ≤ fr then fr else 1)).toNat).1 = rn by omega]
          have hO1 : (eeO ecS ecP lw cf (p + (if 1 ≤ fr then fr else 1)).toNat w ((k + 1) - (if 1 ≤ fr then fr else 1)).toNat).1 = rn + 1 := by rw [hO]
          have hk99 : (eeO ecS ecP lw cf (p + (if 1 ≤ fr then fr else 1)).toNat w ((k + 1) - (if 1 ≤ fr then fr else 1)).toNat).2 = (eeO ecS ecP lw cf (p + (if 1 ≤ fr then fr else 1)).toNat w (k - (if 1 ≤ fr then fr else 1)).toNat).2 := by rw [hO]
          have hrw100 : gRn 257 ty 80 ((eeO ecS ecP lw cf (p + (if 1 ≤ fr then fr else 1)).toNat w ((k + 1) - (if 1 ≤ fr then fr else 1)).toNat).2) hq31 := by rw [hk99]; exact pr39
          refine gy_s 2 (pc' := 11) (L' := [some (.ref x), some (.int (zi p)), some (.int (zi (rn + 1))), some (.int ((zi k) + zi 1)), some (.int (zi z29)), some (.int (zi (zq31 / 2 ^ (lw).toNat))), none]) (S' := []) (L2 := [some (.ref x), some (.int (zi p)), some (.int (zi (rn + 1))), some (.int (zi (k + 1))), some (.int (zi z29)), some (.int (zi (zq31 / 2 ^ (lw).toNat))), none]) (S2 := []) rfl (by simp only [zi_add, zi_sub, zi_mul, zi_neg, zi_and1, zi_and7, zi_and15, zi_and31, zi_and255]) (by simp only [zi_add, zi_sub, zi_mul, zi_neg, zi_and1, zi_and7, zi_and15, zi_and31, zi_and255]) ?_
          exact gz_wk (ihlp9 hq31 (rn + 1) (k + 1) (by omega) sq31 (by omega) (by omega) (by omega) (by omega) (by omega) (by omega) s32 s33 s34 s35 s36 pr38 hrw100) (gLw.s (gLw.s (gLw.s (gLw.s (gLw.n (gLw.n (gLw.n gLw.z)))))))
  have hk00 : (eeO ecS ecP lw cf (p + (if 1 ≤ fr then fr else 1)).toNat w (zq1 - (if 1 ≤ fr then fr else 1)).toNat).1 = 0 := by rw [show (zq1 - (if 1 ≤ fr then fr else 1)).toNat = 0 by omega]; rfl
  exact gz_wk (lp9 _ hq1 0 zq1 (Nat.lt_succ_self _) sq1 (by omega) (by omega) (by omega) (by omega) (by omega) (by omega) s2 s3 s4 s5 s6 pr8 hrw11) (gLw.s (gLw.s (gLw.s (gLw.s (gLw.n (gLw.n (gLw.n gLw.z)))))))
set_option maxRecDepth 20000 in
set_option maxHeartbeats 4000000 in
theorem cw_putOthers (d : Nat) {ty : Nat → Nat} {h : gH} (hJ : gJ rT 1027 ty h) (x : Nat) (tx : ty x = 71) (p : Int) (rp : 0 ≤ p ∧ p ≤ 960) (sk : Nat) (esk : h.2.2.2.2 x 0 = .ref sk) (tsk : ty sk = 56) (bt : Nat) (ebt : h.2.2.2.2 sk 0 = .ref bt) (tbt : ty bt = 114) (c0 : Int) (ec0 : h.2.2.2.2 sk 1 = .int (zi c0)) (rc0 : 0 ≤ c0 ∧ c0 ≤ 499999) (u0 : Int) (eu0 : h.2.2.2.2 sk 2 = .int (zi u0)) (ru0 : 0 ≤ u0 ∧ u0 ≤ 127) (h0 : Int) (eh0 : h.2.2.2.2 sk 3 = .int (zi h0)) (rh0 : 0 ≤ h0 ∧ h0 ≤ 7) (cg : Int) (ecg : h.2.2.2.2 x 11 = .int (zi cg)) (rcg : 0 ≤ cg ∧ cg ≤ 0) (fr : Int) (efr : h.2.2.2.2 x 7 = .int (zi fr)) (rfr : 0 ≤ fr ∧ fr ≤ 63) (tt : Int) (ett : h.2.2.2.2 x 8 = .int (zi tt)) (rtt : 0 ≤ tt ∧ tt ≤ 63) (lw : Int) (elw : h.2.2.2.2 x 10 = .int (zi lw)) (rlw : 0 ≤ lw ∧ lw ≤ 3) (bs : Int) (ebs : h.2.2.2.2 x 5 = .int (zi bs)) (rbs : 0 ≤ bs ∧ bs ≤ 16) (cf : Nat → Int) (sg : gWt) (ec79 : Nat → Int × Int) (pp0 : c0 = sg.1) (pp1 : u0 = sg.2.1) (pp2 : h0 = sg.2.2.1) (pp3 : 4 * c0 + h0 + 320 * (tt - fr + 2) ≤ 1999990) (pp4 : p + 64 ≤ 64 * bs) (pp5 : fr ≤ tt) (pp6 : 1 ≤ tt) (pp7 : c0 ≤ (h.2.2.2.1 bt : Int)) (uq : gUq ty) (hysw : gSW ty bt sg h) (hyok : eeOk sg) (hytb79 : gTab (True) ty 78 79 ec79 h) (hyf73 : gRn (64 * bs).toNat ty 73 cf h) : gz gPP gGG gcn (d + 5) gt120 0 (gent [.ref x, .int (zi p)] 7) [] h (fun q _ => ∃ ty9 : Nat → Nat, gSg [114] [] [56000, 56001, 56002, 56003, 114999] ty h ty9 q.2.2 ∧ ∃ bt2 : Nat, True ∧ ∃ c1 u1 h1 : Int, q.2.2.2.2.2.2 sk 0 = .ref bt2 ∧ ty9 bt2 = 114 ∧ gfin gt120 q.1 q.2.1 = some none ∧ q.2.2.2.2.2.2 sk 1 = .int (zi c1) ∧ 0 ≤ c1 ∧ c1 ≤ 500000 ∧ q.2.2.2.2.2.2 sk 2 = .int (zi u1) ∧ 0 ≤ u1 ∧ u1 ≤ 127 ∧ q.2.2.2.2.2.2 sk 3 = .int (zi h1) ∧ 0 ≤ h1 ∧ h1 ≤ 7 ∧ (c1 = (eeOt (ewS ec79) eeN lw cf (p + (if 1 ≤ fr then fr else 1)).toNat (tt - (if 1 ≤ fr then fr else 1) + 1).toNat sg).1) ∧ (u1 = (eeOt (ewS ec79) eeN lw cf (p + (if 1 ≤ fr then fr else 1)).toNat (tt - (if 1 ≤ fr then fr else 1) + 1).toNat sg).2.1) ∧ (h1 = (eeOt (ewS ec79) eeN lw cf (p + (if 1 ≤ fr then fr else 1)).toNat (tt - (if 1 ≤ fr then fr else 1) + 1).toNat sg).2.2.1) ∧ (4 * c1 + h1 ≤ 4 * c0 + h0 + 320 * (tt - fr + 1)) ∧ (c0 ≤ c1) ∧ (1024 * ((q.2.2.1 : Int) - h.1) ≤ (q.2.2.2.2.2.1 bt2 : Int) - h.2.2.2.1 bt) ∧ (((q.2.2.2.1 : Int) - h.2.1) ≤ 2 * ((q.2.2.2.2.2.1 bt2 : Int) - h.2.2.2.1 bt)) ∧ ((h.2.2.2.1 bt : Int) ≤ (q.2.2.2.2.2.1 bt2 : Int)) ∧ (c1 ≤ (q.2.2.2.2.2.1 bt2 : Int)) ∧ (gSW ty9 bt2 (eeOt (ewS ec79) eeN lw cf (p + (if 1 ≤ fr then fr else 1)).toNat (tt - (if 1 ≤ fr then fr else 1) + 1).toNat sg) q.2.2) ∧ (eeOk (eeOt (ewS ec79) eeN lw cf (p + (if 1 ≤ fr then fr else 1)).toNat (tt - (if 1 ≤ fr then fr else 1) + 1).toNat sg))) := by
  have hS : gSs rT 1027 ty [56000, 56001, 56002, 56003, 114999] h h := gSs.rf hJ
  have G0 : gSg [114] [] [56000, 56001, 56002, 56003, 114999] ty h ty h := gSg.rf hJ (fun x hx => by cases hx)
  refine gz_s 4 (pc' := 4) (L' := [some (.ref x), some (.int (zi p)), some (.int (zi 0)), none, none, none, none]) (S' := [.ref x, .int (zi 1)]) rfl ?_
  refine gs_gtk rfl (by decide) rfl hS.1 tx rfl rfl efr ?_
  refine gz_call rfl (by decide) rfl (by decide) (by decide) (gcal_of rfl rfl rfl (Nat.le_of_ble_eq_true rfl) rfl) (cl_Math_max _ hS.1 1 ⟨by omega, by omega⟩ fr ⟨by omega, by omega⟩ ) (fun q1 _ wq1 => ?_)
  obtain ⟨pq1, oq1, hq1⟩ := q1
  obtain ⟨xq1, zq1, gq1, aq1, bq1, uq1_0, uq1_1, uq1_2⟩ := wq1
  refine ⟨_, gq1, ?_⟩
  show gz gPP gGG gcn _ _ 10 [some (.ref x), some (.int (zi p)), some (.int (zi 0)), none, none, none, none] [.int (zi zq1)] hq1 _
  have sq1 : gSs rT 1027 ty [56000, 56001, 56002, 56003, 114999] h hq1 := gSs.tr hS xq1 (by decide)
  have s2 := (xq1.2.2.2.2.2 x 0 (by rw [tx]; decide)).trans esk
  have s3 := (xq1.2.2.2.2.2 sk 0 (by rw [tsk]; decide)).trans ebt
  have s4 := (xq1.2.2.2.2.2 sk 1 (by rw [tsk]; decide)).trans ec0
  have s5 := (xq1.2.2.2.2.2 sk 2 (by rw [tsk]; decide)).trans eu0
  have s6 := (xq1.2.2.2.2.2 sk 3 (by rw [tsk]; decide)).trans eh0
  have s7 := (xq1.2.2.2.2.2 x 11 (by rw [tx]; decide)).trans ecg
  have s8 := (xq1.2.2.2.2.2 x 7 (by rw [tx]; decide)).trans efr
  have s9 := (xq1.2.2.2.2.2 x 8 (by rw [tx]; decide)).trans ett
  have s10 := (xq1.2.2.2.2.2 x 10 (by rw [tx]; decide)).trans elw
  have s11 := (xq1.2.2.2.2.2 x 5 (by rw [tx]; decide)).trans ebs
  have pr12 := gSW.fr xq1.2 (by decide) hysw
  have pr13 := gTab.fr xq1.2 (fun _ => rfl) (fun _ => rfl) (by decide) (by decide) hytb79
  have pr14 := gRn.fr xq1.2 (by decide) hyf73
  refine gz_s 1 (pc' := 11) (L' := [some (.ref x), some (.int (zi p)), some (.int (zi 0)), some (.int (zi zq1)), none, none, none]) (S' := []) rfl ?_
  have hk16 : (eeO (ewS ec79) eeN lw cf (p + (if 1 ≤ fr then fr else 1)).toNat sg (zq1 - (if 1 ≤ fr then fr else 1)).toNat).2 = sg := by rw [show (zq1 - (if 1 ≤ fr then fr else 1)).toNat = 0 by omega]; rfl
  have hk16_1 : ((eeO (ewS ec79) eeN lw cf (p + (if 1 ≤ fr then fr else 1)).toNat sg (zq1 - (if 1 ≤ fr then fr else 1)).toNat).2).1 = (sg).1 := by rw [hk16]
  have hk16_21 : ((eeO (ewS ec79) eeN lw cf (p + (if 1 ≤ fr then fr else 1)).toNat sg (zq1 - (if 1 ≤ fr then fr else 1)).toNat).2).2.1 = (sg).2.1 := by rw [hk16]
  have hk16_221 : ((eeO (ewS ec79) eeN lw cf (p + (if 1 ≤ fr then fr else 1)).toNat sg (zq1 - (if 1 ≤ fr then fr else 1)).toNat).2).2.2.1 = (sg).2.2.1 := by rw [hk16]
  have hsw17 : gSW ty bt ((eeO (ewS ec79) eeN lw cf (p + (if 1 ≤ fr then fr else 1)).toNat sg (zq1 - (if 1 ≤ fr then fr else 1)).toNat).2) hq1 := by rw [hk16]; exact pr12
  have hok18 : eeOk ((eeO (ewS ec79) eeN lw cf (p + (if 1 ≤ fr then fr else 1)).toNat sg (zq1 - (if 1 ≤ fr then fr else 1)).toNat).2) := by rw [hk16]; exact hyok
  have hoc19 := hok18.cur
  have lp15 : ∀ (fu : Nat) (ty21 : Nat → Nat) (h20 : gH) (bv : Nat) (rn : Int) (k : Int) (cv : Int) (uv : Int) (hv : Int), (65 - k).toNat < fu → gSg [114] [] [56000, 56001, 56002, 56003, 114999] ty h ty21 h20 → gUq ty21 → ty21 x = 71 → ty21 sk = 56 → h20.2.2.2.2 sk 0 = .ref bv → ty21 bv = 114 → (0 ≤ rn ∧ rn ≤ 63) → (1 ≤ k ∧ k ≤ 64) → (0 ≤ cv ∧ cv ≤ 499999) → (0 ≤ uv ∧ uv ≤ 127) → (0 ≤ hv ∧ hv ≤ 7) → (rn = (eeO (ewS ec79) eeN lw cf (p + (if 1 ≤ fr then fr else 1)).toNat sg (k - (if 1 ≤ fr then fr else 1)).toNat).1) → ((if 1 ≤ fr then fr else 1) ≤ k) → (k ≤ tt + 1) → (rn ≤ k - (if 1 ≤ fr then fr else 1)) → (cv = ((eeO (ewS ec79) eeN lw cf (p + (if 1 ≤ fr then fr else 1)).toNat sg (k - (if 1 ≤ fr then fr else 1)).toNat).2).1) → (uv = ((eeO (ewS ec79) eeN lw cf (p + (if 1 ≤ fr then fr else 1)).toNat sg (k - (if 1 ≤ fr then fr else 1)).toNat).2).2.1) → (hv = ((eeO (ewS ec79) eeN lw cf (p + (if 1 ≤ fr then fr else 1)).toNat sg (k - (if 1 ≤ fr then fr else 1)).toNat).2).2.2.1) → (4 * cv + hv + 320 * rn ≤ 4 * c0 + h0 + 320 * (k - (if 1 ≤ fr then fr else 1))) → (c0 ≤ cv) → (1024 * ((h20.1 : Int) - h.1) ≤ (h20.2.2.2.1 bv : Int) - h.2.2.2.1 bt) → (((h20.2.1 : Int) - h.2.1) ≤ 2 * ((h20.2.2.2.1 bv : Int) - h.2.2.2.1 bt)) → ((h.2.2.2.1 bt : Int) ≤ (h20.2.2.2.1 bv : Int)) → (cv ≤ (h20.2.2.2.1 bv : Int)) → h20.2.2.2.2 x 0 = .ref sk → h20.2.2.2.2 x 11 = .int (zi cg) → h20.2.2.2.2 x 7 = .int (zi fr) → h20.2.2.2.2 x 8 = .int (zi tt) → h20.2.2.2.2 x 10 = .int (zi lw) → h20.2.2.2.2 x 5 = .int (zi bs) → h20.2.2.2.2 sk 1 = .int (zi cv) → h20.2.2.2.2 sk 2 = .int (zi uv) → h20.2.2.2.2 sk 3 = .int (zi hv) → gTab (True) ty21 78 79 ec79 h20 → gRn (64 * bs).toNat ty21 73 cf h20 → gSW ty21 bv ((eeO (ewS ec79) eeN lw cf (p + (if 1 ≤ fr then fr else 1)).toNat sg (k - (if 1 ≤ fr then fr else 1)).toNat).2) h20 → eeOk ((eeO (ewS ec79) eeN lw cf (p + (if 1 ≤ fr then fr else 1)).toNat sg (k - (if 1 ≤ fr then fr else 1)).toNat).2) → gz gPP gGG gcn (d + 5) gt120 11 [some (.ref x), some (.int (zi p)), some (.int (zi rn)), some (.int (zi k)), none, none, none] [] h20 (fun q _ => ∃ ty9 : Nat → Nat, gSg [114] [] [56000, 56001, 56002, 56003, 114999] ty h ty9 q.2.2 ∧ ∃ bt2 : Nat, True ∧ ∃ c1 u1 h1 : Int, q.2.2.2.2.2.2 sk 0 = .ref bt2 ∧ ty9 bt2 = 114 ∧ gfin gt120 q.1 q.2.1 = some none ∧ q.2.2.2.2.2.2 sk 1 = .int (zi c1) ∧ 0 ≤ c1 ∧ c1 ≤ 500000 ∧ q.2.2.2.2.2.2 sk 2 = .int (zi u1) ∧ 0 ≤ u1 ∧ u1 ≤ 127 ∧ q.2.2.2.2.2.2 sk 3 = .int (zi h1) ∧ 0 ≤ h1 ∧ h1 ≤ 7 ∧ (c1 = (eeOt (ewS ec79) eeN lw cf (p + (if 1 ≤ fr then fr else 1)).toNat (tt - (if 1 ≤ fr then fr else 1) + 1).toNat sg).1) ∧ (u1 = (eeOt (ewS ec79) eeN lw cf (p + (if 1 ≤ fr then fr else 1)).toNat (tt - (if 1 ≤ fr then fr else 1) + 1).toNat sg).2.1) ∧ (h1 = (eeOt (ewS ec79) eeN lw cf (p + (if 1 ≤ fr then fr else 1)).toNat (tt - (if 1 ≤ fr then fr else 1) + 1).toNat sg).2.2.1) ∧ (4 * c1 + h1 ≤ 4 * c0 + h0 + 320 * (tt - fr + 1)) ∧ (c0 ≤ c1) ∧ (1024 * ((q.2.2.1 : Int) - h.1) ≤ (q.2.2.2.2.2.1 bt2 : Int) - h.2.2.2.1 bt) ∧ (((q.2.2.2.1 : Int) - h.2.1) ≤ 2 * ((q.2.2.2.2.2.1 bt2 : Int) - h.2.2.2.1 bt)) ∧ ((h.2.2.2.1 bt : Int) ≤ (q.2.2.2.2.2.1 bt2 : Int)) ∧ (c1 ≤ (q.2.2.2.2.2.1 bt2 : Int)) ∧ (gSW ty9 bt2 (eeOt (ewS ec79) eeN lw cf (p + (if 1 ≤ fr then fr else 1)).toNat (tt - (if 1 ≤ fr then fr else 1) + 1).toNat sg) q.2.2) ∧ (eeOk (eeOt (ewS ec79) eeN lw cf (p + (if 1 ≤ fr then fr else 1)).toNat (tt - (if 1 ≤ fr then fr else 1) + 1).toNat sg))) := by
    intro fu
    induction fu with
    | zero => intro ty21 h20 bv rn k cv uv hv hm; exact absurd hm (Nat.not_lt_zero _)
    | succ fu ihlp15 =>
      intro ty21 h20 bv rn k cv uv hv lp15m lp15G lp15u lp15c0 lp15c1 lp15r0 lp15r1 lp15f0 lp15f1 lp15f2 lp15f3 lp15f4 lp15f5 lp15f6 lp15f7 lp15f8 lp15f9 lp15f10 lp15f11 lp15f12 lp15f13 lp15f14 lp15f15 lp15f16 lp15f17 lp15k0 lp15k1 lp15k2 lp15k3 lp15k4 lp15k5 lp15k6 lp15k7 lp15k8 lp15k9 lp15k10 lp15k11 lp15k12
      have sh20 : gSs rT 1027 ty21 [56000, 56001, 56002, 56003, 114999] h20 h20 := gSs.rf lp15G.1
      refine gz_s 2 (pc' := 13) (L' := [some (.ref x), some (.int (zi p)), some (.int (zi rn)), some (.int (zi k)), none, none, none]) (S' := [.ref x, .int (zi k)]) rfl ?_
      refine gs_gtk rfl (by decide) rfl sh20.1 lp15c0 rfl rfl lp15k3 ?_
      by_cases hc22 : (tt : Int) < k
      · refine gy_icT (pc' := 120) rfl (by decide) (by decide) (by omega) (by omega) hc22 ?_
        refine gz_s 1 (pc' := 121) (L' := [some (.ref x), some (.int (zi p)), some (.int (zi rn)), some (.int (zi k)), none, none, none]) (S' := [.int (zi rn)]) rfl ?_
        by_cases hc23 : (rn : Int) ≤ 0
        · refine gy_ifT (pc' := 130) rfl (by decide) (by decide) (by omega) hc23 ?_
          have hkt : (k - (if 1 ≤ fr then fr else 1)).toNat = (tt - (if 1 ≤ fr then fr else 1) + 1).toNat := by omega
          have hr9 : (eeO (ewS ec79) eeN lw cf (p + (if 1 ≤ fr then fr else 1)).toNat sg (k - (if 1 ≤ fr then fr else 1)).toNat).1 = rn := by omega
          rw [hkt] at hr9
          have hk24 : eeOt (ewS ec79) eeN lw cf (p + (if 1 ≤ fr then fr else 1)).toNat (tt - (if 1 ≤ fr then fr else 1) + 1).toNat sg = (eeO (ewS ec79) eeN lw cf (p + (if 1 ≤ fr then fr else 1)).toNat sg (k - (if 1 ≤ fr then fr else 1)).toNat).2 := by rw [hkt]; exact eeOt_n (by omega)
          have hk24_1 : (eeOt (ewS ec79) eeN lw cf (p + (if 1 ≤ fr then fr else 1)).toNat (tt - (if 1 ≤ fr then fr else 1) + 1).toNat sg).1 = ((eeO (ewS ec79) eeN lw cf (p + (if 1 ≤ fr then fr else 1)).toNat sg (k - (if 1 ≤ fr then fr else 1)).toNat).2).1 := by rw [hk24]
          have hk24_21 : (eeOt (ewS ec79) eeN lw cf (p + (if 1 ≤ fr then fr else 1)).toNat (tt - (if 1 ≤ fr then fr else 1) + 1).toNat sg).2.1 = ((eeO (ewS ec79) eeN lw cf (p + (if 1 ≤ fr then fr else 1)).toNat sg (k - (if 1 ≤ fr then fr else 1)).toNat).2).2.1 := by rw [hk24]
          have hk24_221 : (eeOt (ewS ec79) eeN lw cf (p + (if 1 ≤ fr then fr else 1)).toNat (tt - (if 1 ≤ fr then fr else 1) + 1).toNat sg).2.2.1 = ((eeO (ewS ec79) eeN lw cf (p + (if 1 ≤ fr then fr else 1)).toNat sg (k - (if 1 ≤ fr then fr else 1)).toNat).2).2.2.1 := by rw [hk24]
          have hsw25 : gSW ty21 bv (eeOt (ewS ec79) eeN lw cf (p + (if 1 ≤ fr then fr else 1)).toNat (tt - (if 1 ≤ fr then fr else 1) + 1).toNat sg) h20 := by rw [hk24]; exact lp15k11
          have hok26 : eeOk (eeOt (ewS ec79) eeN lw cf (p + (if 1 ≤ fr then fr else 1)).toNat (tt - (if 1 ≤ fr then fr else 1) + 1).toNat sg) := by rw [hk24]; exact lp15k12
          have hoc27 := hok26.cur
          have hl28 : 1024 ≤ h20.2.2.2.1 bv ∧ h20.2.2.2.1 bv ≤ 1000000 := gJ.rowl (G := gGG) sh20.1 lp15r1 rfl
          have G29 : gSg [114] [] [56000, 56001, 56002, 56003, 114999] ty h ty21 h20 := gSg.ss lp15G sh20 (by decide)
          exact gz_end (I := .return_) (len := 1) rfl (Or.inl rfl) ⟨ty21, G29, bv, trivial, cv, uv, hv, lp15r0, lp15r1, rfl, lp15k6, (by omega), (by omega), lp15k7, (by omega), (by omega), lp15k8, (by omega), (by omega), (by omega), (by omega), (by omega), (by omega), (by omega), (by dsimp only; omega), (by dsimp only; omega), (by dsimp only; omega), (by dsimp only; omega), hsw25, hok26⟩
        · refine gy_ifF rfl (by decide) (by decide) (by omega) hc23 ?_
          refine gz_s 3 (pc' := 127) (L' := [some (.ref x), some (.int (zi p)), some (.int (zi rn)), some (.int (zi k)), none, none, none]) (S' := [.int (zi 0), .int (zi 1), .ref x]) rfl ?_
          have hl30 : h20.2.2.2.1 bv = h20.2.2.2.1 bv := congrFun sh20.2.2.2.2.1 bv
          refine gz_call rfl (by decide) rfl (by decide) (by decide) (gcal_of rfl rfl rfl (Nat.le_of_ble_eq_true rfl) (gJ.recv (G := gGG) sh20.1 lp15c0 rfl rfl)) (cw_putSymbol1 _ sh20.1 x lp15c0 1 ⟨by omega, by omega⟩ 0 ⟨by omega, by omega⟩ sk lp15k0 lp15c1 bv lp15r0 lp15r1 cv lp15k6 ⟨by omega, by omega⟩ uv lp15k7 ⟨by omega, by omega⟩ hv lp15k8 ⟨by omega, by omega⟩ cg lp15k1 ⟨by omega, by omega⟩ ((eeO (ewS ec79) eeN lw cf (p + (if 1 ≤ fr then fr else 1)).toNat sg (k - (if 1 ≤ fr then fr else 1)).toNat).2) ec79 (by omega) (by omega) (by omega) (by omega) (by omega) lp15u lp15k11 lp15k12 lp15k9) (fun q31 _ wq31 => ?_)
          obtain ⟨pq31, oq31, hq31⟩ := q31
          obtain ⟨tyq31, xq31, cq31_0, ttq31, fq31_0, fq31_1, fq31_2, ecq31_0, tcq31_0, gq31, efq31_0, afq31_0, bfq31_0, efq31_1, afq31_1, bfq31_1, efq31_2, afq31_2, bfq31_2, uq31_0, uq31_1, uq31_2, uq31_3, uq31_4, uq31_5, uq31_6, uq31_7, uq31_8, yq31_0, yq31_1⟩ := wq31
          dsimp only at uq31_5 uq31_6 uq31_7 uq31_8
          refine ⟨_, gq31, ?_⟩
          show gz gPP gGG gcn _ _ 130 [some (.ref x), some (.int (zi p)), some (.int (zi rn)), some (.int (zi k)), none, none, none] [] hq31 _
          have G32 : gSg [114] [] [56000, 56001, 56002, 56003, 114999] ty h tyq31 hq31 := gSg.tr (gSg.ss lp15G sh20 (by decide)) xq31 (by decide) (by decide) (fun x hx => by cases hx)
          have t33 : tyq31 x = 71 := gSg.typ xq31 sh20.1 lp15c0 rfl
          have t34 : tyq31 sk = 56 := gSg.typ xq31 sh20.1 lp15c1 rfl
          have t35 : tyq31 bv = 114 := gSg.typ xq31 sh20.1 lp15r1 rfl
          have hl36 : hq31.2.2.2.1 bv = h20.2.2.2.1 bv := gSg.len xq31 sh20.1 lp15r1 rfl
          have s37 := gSg.at xq31 sh20.1 lp15c0 rfl (by decide) lp15k0
          have s38 := gSg.at xq31 sh20.1 lp15c0 rfl (by decide) lp15k1
          have s39 := gSg.at xq31 sh20.1 lp15c0 rfl (by decide) lp15k2
          have s40 := gSg.at xq31 sh20.1 lp15c0 rfl (by decide) lp15k3
          have s41 := gSg.at xq31 sh20.1 lp15c0 rfl (by decide) lp15k4
          have s42 := gSg.at xq31 sh20.1 lp15c0 rfl (by decide) lp15k5
          have pr43 := gTab.gr xq31 sh20.1 rfl rfl (fun _ => rfl) (fun _ => rfl) (by decide) (by decide) (by decide) (by decide) lp15k9
          have pr44 := gRn.gr xq31 sh20.1 rfl (by decide) (by decide) lp15k10
          have uq45 := gSg.uq xq31 lp15u (by decide)
          have sS46 : gSs rT 1027 tyq31 [56000, 56001, 56002, 56003, 114999] hq31 hq31 := gSs.rf xq31.1
          have hkt : (k - (if 1 ≤ fr then fr else 1)).toNat = (tt - (if 1 ≤ fr then fr else 1) + 1).toNat := by omega
          have hr9 : (eeO (ewS ec79) eeN lw cf (p + (if 1 ≤ fr then fr else 1)).toNat sg (k - (if 1 ≤ fr then fr else 1)).toNat).1 = rn := by omega
          rw [hkt] at hr9
          have hk47 : eeOt (ewS ec79) eeN lw cf (p + (if 1 ≤ fr then fr else 1)).toNat (tt - (if 1 ≤ fr then fr else 1) + 1).toNat sg = ewS ec79 0 ((eeO (ewS ec79) eeN lw cf (p + (if 1 ≤ fr then fr else 1)).toNat sg (k - (if 1 ≤ fr then fr else 1)).toNat).2) := by rw [hkt]; exact eeOt_p (by omega)
          have hk47_1 : (eeOt (ewS ec79) eeN lw cf (p + (if 1 ≤ fr then fr else 1)).toNat (tt - (if 1 ≤ fr then fr else 1) + 1).toNat sg).1 = (ewS ec79 0 ((eeO (ewS ec79) eeN lw cf (p + (if 1 ≤ fr then fr else 1)).toNat sg (k - (if 1 ≤ fr then fr else 1)).toNat).2)).1 := by rw [hk47]
          have hk47_21 : (eeOt (ewS ec79) eeN lw cf (p + (if 1 ≤ fr then fr else 1)).toNat (tt - (if 1 ≤ fr then fr else 1) + 1).toNat sg).2.1 = (ewS ec79 0 ((eeO (ewS ec79) eeN lw cf (p + (if 1 ≤ fr then fr else 1)).toNat sg (k - (if 1 ≤ fr then fr else 1)).toNat).2)).2.1 := by rw [hk47]
          have hk47_221 : (eeOt (ewS ec79) eeN lw cf (p + (if 1 ≤ fr then fr else 1)).toNat (tt - (if 1 ≤ fr then fr else 1) + 1).toNat sg).2.2.1 = (ewS ec79 0 ((eeO (ewS ec79) eeN lw cf (p + (if 1 ≤ fr then fr else 1)).toNat sg (k - (if 1 ≤ fr then fr else 1)).toNat).2)).2.2.1 := by rw [hk47]
          have hsw48 : gSW tyq31 cq31_0 (eeOt (ewS ec79) eeN lw cf (p + (if 1 ≤ fr then fr else 1)).toNat (tt - (if 1 ≤ fr then fr else 1) + 1).toNat sg) hq31 := by rw [hk47]; exact yq31_0
          have hok49 : eeOk (eeOt (ewS ec79) eeN lw cf (p + (if 1 ≤ fr then fr else 1)).toNat (tt - (if 1 ≤ fr then fr else 1) + 1).toNat sg) := by rw [hk47]; exact yq31_1
          have hoc50 := hok49.cur
          have hl51 : 1024 ≤ hq31.2.2.2.1 bv ∧ hq31.2.2.2.1 bv ≤ 1000000 := gJ.rowl (G := gGG) sS46.1 t35 rfl
          have hl52 : 1024 ≤ hq31.2.2.2.1 cq31_0 ∧ hq31.2.2.2.1 cq31_0 ≤ 1000000 := gJ.rowl (G := gGG) sS46.1 tcq31_0 rfl
          have G53 : gSg [114] [] [56000, 56001, 56002, 56003, 114999] ty h tyq31 hq31 := gSg.ss G32 sS46 (by decide)
          exact gz_end (I := .return_) (len := 1) rfl (Or.inl rfl) ⟨tyq31, G53, cq31_0, trivial, fq31_0, fq31_1, fq31_2, ecq31_0, tcq31_0, rfl, efq31_0, (by omega), (by omega), efq31_1, (by omega), (by omega), efq31_2, (by omega), (by omega), (by omega), (by omega), (by omega), (by omega), (by omega), (by dsimp only; omega), (by dsimp only; omega), (by dsimp only; omega), (by dsimp only; omega), hsw48, hok49⟩
      · refine gy_icF rfl (by decide) (by decide) (by omega) (by omega) hc22 ?_
        refine gz_s 1 (pc' := 20) (L' := [some (.ref x), some (.int (zi p)), some (.int (zi rn)), some (.int (zi k)), none, none, none]) (S' := [.ref x]) rfl ?_
        refine gs_gtr rfl (by decide) rfl sh20.1 lp15c0 rfl rfl rfl (fun c54 ec54 tc54 => ?_)
        refine gy_s 3 (pc' := 26) (L' := [some (.ref x), some (.int (zi p)), some (.int (zi rn)), some (.int (zi k)), none, none, none]) (S' := [.int ((zi p) + (zi k)), .ref c54]) (L2 := [some (.ref x), some (.int (zi p)), some (.int (zi rn)), some (.int (zi k)), none, none, none]) (S2 := [.int (zi (p + k)), .ref c54]) rfl (by simp only [zi_add, zi_sub, zi_mul, zi_neg, zi_and1, zi_and7, zi_and15, zi_and31, zi_and255]) (by simp only [zi_add, zi_sub, zi_mul, zi_neg, zi_and1, zi_and7, zi_and15, zi_and31, zi_and255]) ?_
        have hl55 : 1024 ≤ h20.2.2.2.1 c54 ∧ h20.2.2.2.1 c54 ≤ 1024 := gJ.rowl (G := gGG) sh20.1 tc54 rfl
        refine gs_ald rfl (by decide) sh20.1 tc54 rfl rfl rfl (by decide) (fun _ => rfl) (by omega) (by omega) (fun z56 ez56 az56 bz56 => ?_)
        have hf57 := gRn.at (i := p + k) (z := z56) lp15k10 tc54 ez56 (by omega) (by omega) (by omega)
        have hbj : (p + (if 1 ≤ fr then fr else 1)).toNat + (k - (if 1 ≤ fr then fr else 1)).toNat = (p + k).toNat := by omega
        have hcf : cf ((p + (if 1 ≤ fr then fr else 1)).toNat + (k - (if 1 ≤ fr then fr else 1)).toNat) = z56 := by rw [hbj]; exact hf57
        have hkj : (k + 1 - (if 1 ≤ fr then fr else 1)).toNat = (k - (if 1 ≤ fr then fr else 1)).toNat + 1 := by omega
        refine gz_s 2 (pc' := 31) (L' := [some (.ref x), some (.int (zi p)), some (.int (zi rn)), some (.int (zi k)), some (.int (zi z56)), none, none]) (S' := [.int (zi z56)]) rfl ?_
        refine gz_call rfl (by decide) rfl (by decide) (by decide) (gcal_of rfl rfl rfl (Nat.le_of_ble_eq_true rfl) rfl) (cl_Math_abs _ sh20.1 z56 ⟨by omega, by omega⟩ ) (fun q58 _ wq58 => ?_)
        obtain ⟨pq58, oq58, hq58⟩ := q58
        obtain ⟨xq58, zq58, gq58, aq58, bq58, uq58_0, uq58_1⟩ := wq58
        refine ⟨_, gq58, ?_⟩
        show gz gPP gGG gcn _ _ 34 [some (.ref x), some (.int (zi p)), some (.int (zi rn)), some (.int (zi k)), some (.int (zi z56)), none, none] [.int (zi zq58)] hq58 _
        have sq58 : gSs rT 1027 ty21 [56000, 56001, 56002, 56003, 114999] h20 hq58 := gSs.tr sh20 xq58 (by decide)
        have s59 := (xq58.2.2.2.2.2 x 0 (by rw [lp15c0]; decide)).trans lp15k0
        have s60 := (xq58.2.2.2.2.2 x 11 (by rw [lp15c0]; decide)).trans lp15k1
        have s61 := (xq58.2.2.2.2.2 x 7 (by rw [lp15c0]; decide)).trans lp15k2
        have s62 := (xq58.2.2.2.2.2 x 8 (by rw [lp15c0]; decide)).trans lp15k3
        have s63 := (xq58.2.2.2.2.2 x 10 (by rw [lp15c0]; decide)).trans lp15k4
        have s64 := (xq58.2.2.2.2.2 x 5 (by rw [lp15c0]; decide)).trans lp15k5
        have s65 := (xq58.2.2.2.2.2 sk 1 (by rw [lp15c1]; decide)).trans lp15k6
        have s66 := (xq58.2.2.2.2.2 sk 2 (by rw [lp15c1]; decide)).trans lp15k7
        have s67 := (xq58.2.2.2.2.2 sk 3 (by rw [lp15c1]; decide)).trans lp15k8
        have s68 := (xq58.2.2.2.2.2 sk 0 (by rw [lp15c1]; decide)).trans lp15r0
        have s69 := (xq58.2.2.2.2.2 x 2 (by rw [lp15c0]; decide)).trans ec54
        have pr70 := gTab.fr xq58.2 (fun _ => rfl) (fun _ => rfl) (by decide) (by decide) lp15k9
        have pr71 := gRn.fr xq58.2 (by decide) lp15k10
        have pr72 := gSW.fr xq58.2 (by decide) lp15k11
        have hA : zq58 = eeA z56 := eeA_of (by omega) (by omega)
        refine gz_s 1 (pc' := 35) (L' := [some (.ref x), some (.int (zi p)), some (.int (zi rn)), some (.int (zi k)), some (.int (zi z56)), none, none]) (S' := [.ref x, .int (zi zq58)]) rfl ?_
        refine gs_gtk rfl (by decide) rfl sq58.1 lp15c0 rfl rfl s63 ?_
        refine gy_shr rfl (by decide) (by omega) (by omega) ?_
        have hx73 := zsh_b (a := zq58) (n := lw) (by omega)
        refine gz_s 2 (pc' := 43) (L' := [some (.ref x), some (.int (zi p)), some (.int (zi rn)), some (.int (zi k)), some (.int (zi z56)), some (.int (zi (zq58 / 2 ^ (lw).toNat))), none]) (S' := [.int (zi (zq58 / 2 ^ (lw).toNat))]) rfl ?_
        by_cases hc74 : ¬ (zq58 / 2 ^ (lw).toNat : Int) = 0
        · refine gy_ifT (pc' := 52) rfl (by decide) (by decide) (by omega) hc74 ?_
          have hk76 : eeZ (ewS ec79) (eeO (ewS ec79) eeN lw cf (p + (if 1 ≤ fr then fr else 1)).toNat sg (k - (if 1 ≤ fr then fr else 1)).toNat).2 ((rn - rn) / 16).toNat = (eeO (ewS ec79) eeN lw cf (p + (if 1 ≤ fr then fr else 1)).toNat sg (k - (if 1 ≤ fr then fr else 1)).toNat).2 := by rw [show ((rn - rn) / 16).toNat = 0 by omega]; rfl
          have hk76_1 : (eeZ (ewS ec79) (eeO (ewS ec79) eeN lw cf (p + (if 1 ≤ fr then fr else 1)).toNat sg (k - (if 1 ≤ fr then fr else 1)).toNat).2 ((rn - rn) / 16).toNat).1 = ((eeO (ewS ec79) eeN lw cf (p + (if 1 ≤ fr then fr else 1)).toNat sg (k - (if 1 ≤ fr then fr else 1)).toNat).2).1 := by rw [hk76]
          have hk76_21 : (eeZ (ewS ec79) (eeO (ewS ec79) eeN lw cf (p + (if 1 ≤ fr then fr else 1)).toNat sg (k - (if 1 ≤ fr then fr else 1)).toNat).2 ((rn - rn) / 16).toNat).2.1 = ((eeO (ewS ec79) eeN lw cf (p + (if 1 ≤ fr then fr else 1)).toNat sg (k - (if 1 ≤ fr then fr else 1)).toNat).2).2.1 := by rw [hk76]
          have hk76_221 : (eeZ (ewS ec79) (eeO (ewS ec79) eeN lw cf (p + (if 1 ≤ fr then fr else 1)).toNat sg (k - (if 1 ≤ fr then fr else 1)).toNat).2 ((rn - rn) / 16).toNat).2.2.1 = ((eeO (ewS ec79) eeN lw cf (p + (if 1 ≤ fr then fr else 1)).toNat sg (k - (if 1 ≤ fr then fr else 1)).toNat).2).2.2.1 := by rw [hk76]
          have hsw77 : gSW ty21 bv (eeZ (ewS ec79) (eeO (ewS ec79) eeN lw cf (p + (if 1 ≤ fr then fr else 1)).toNat sg (k - (if 1 ≤ fr then fr else 1)).toNat).2 ((rn - rn) / 16).toNat) hq58 := by rw [hk76]; exact pr72
          have hok78 : eeOk (eeZ (ewS ec79) (eeO (ewS ec79) eeN lw cf (p + (if 1 ≤ fr then fr else 1)).toNat sg (k - (if 1 ≤ fr then fr else 1)).toNat).2 ((rn - rn) / 16).toNat) := by rw [hk76]; exact lp15k12
          have hoc79 := hok78.cur
          have lp75 : ∀ (fu : Nat) (ty81 : Nat → Nat) (h80 : gH) (bv2 : Nat) (rn2 : Int) (cv2 : Int) (uv2 : Int) (hv2 : Int), (rn2).toNat < fu → gSg [114] [] [56000, 56001, 56002, 56003, 114999] ty h ty81 h80 → gUq ty81 → ty81 x = 71 → ty81 sk = 56 → ty81 c54 = 73 → h80.2.2.2.2 sk 0 = .ref bv2 → ty81 bv2 = 114 → (0 ≤ rn2 ∧ rn2 ≤ 63) → (0 ≤ cv2 ∧ cv2 ≤ 499999) → (0 ≤ uv2 ∧ uv2 ≤ 127) → (0 ≤ hv2 ∧ hv2 ≤ 7) → (rn2 ≤ rn) → ((rn - rn2) % 16 = 0) → (cv2 = (eeZ (ewS ec79) (eeO (ewS ec79) eeN lw cf (p + (if 1 ≤ fr then fr else 1)).toNat sg (k - (if 1 ≤ fr then fr else 1)).toNat).2 ((rn - rn2) / 16).toNat).1) → (uv2 = (eeZ (ewS ec79) (eeO (ewS ec79) eeN lw cf (p + (if 1 ≤ fr then fr else 1)).toNat sg (k - (if 1 ≤ fr then fr else 1)).toNat).2 ((rn - rn2) / 16).toNat).2.1) → (hv2 = (eeZ (ewS ec79) (eeO (ewS ec79) eeN lw cf (p + (if 1 ≤ fr then fr else 1)).toNat sg (k - (if 1 ≤ fr then fr else 1)).toNat).2 ((rn - rn2) / 16).toNat).2.2.1) → (4 * cv2 + hv2 + 320 * rn2 ≤ 4 * c0 + h0 + 320 * (k - (if 1 ≤ fr then fr else 1))) → (c0 ≤ cv2) → (1024 * ((h80.1 : Int) - h.1) ≤ (h80.2.2.2.1 bv2 : Int) - h.2.2.2.1 bt) → (((h80.2.1 : Int) - h.2.1) ≤ 2 * ((h80.2.2.2.1 bv2 : Int) - h.2.2.2.1 bt)) → ((h.2.2.2.1 bt : Int) ≤ (h80.2.2.2.1 bv2 : Int)) → (cv2 ≤ (h80.2.2.2.1 bv2 : Int)) → h80.2.2.2.2 x 0 = .ref sk → h80.2.2.2.2 x 11 = .int (zi cg) → h80.2.2.2.2 x 7 = .int (zi fr) → h80.2.2.2.2 x 8 = .int (zi tt) → h80.2.2.2.2 x 10 = .int (zi lw) → h80.2.2.2.2 x 5 = .int (zi bs) → h80.2.2.2.2 x 2 = .ref c54 → h80.2.2.2.2 sk 1 = .int (zi cv2) → h80.2.2.2.2 sk 2 = .int (zi uv2) → h80.2.2.2.2 sk 3 = .int (zi hv2) → gTab (True) ty81 78 79 ec79 h80 → gRn (64 * bs).toNat ty81 73 cf h80 → gSW ty81 bv2 (eeZ (ewS ec79) (eeO (ewS ec79) eeN lw cf (p + (if 1 ≤ fr then fr else 1)).toNat sg (k - (if 1 ≤ fr then fr else 1)).toNat).2 ((rn - rn2) / 16).toNat) h80 → eeOk (eeZ (ewS ec79) (eeO (ewS ec79) eeN lw cf (p + (if 1 ≤ fr then fr else 1)).toNat sg (k - (if 1 ≤ fr then fr else 1)).toNat).2 ((rn - rn2) / 16).toNat) → gz gPP gGG gcn (d + 5) gt120 52 [some (.ref x), some (.int (zi p)), some (.int (zi rn2)), some (.int (zi k)), some (.int (zi z56)), some (.int (zi (zq58 / 2 ^ (lw).toNat))), none] [] h80 (fun q _ => ∃ ty9 : Nat → Nat, gSg [114] [] [56000, 56001, 56002, 56003, 114999] ty h ty9 q.2.2 ∧ ∃ bt2 : Nat, True ∧ ∃ c1 u1 h1 : Int, q.2.2.2.2.2.2 sk 0 = .ref bt2 ∧ ty9 bt2 = 114 ∧ gfin gt120 q.1 q.2.1 = some none ∧ q.2.2.2.2.2.2 sk 1 = .int (zi c1) ∧ 0 ≤ c1 ∧ c1 ≤ 500000 ∧ q.2.2.2.2.2.2 sk 2 = .int (zi u1) ∧ 0 ≤ u1 ∧ u1 ≤ 127 ∧ q.2.2.2.2.2.2 sk 3 = .int (zi h1) ∧ 0 ≤ h1 ∧ h1 ≤ 7 ∧ (c1 = (eeOt (ewS ec79) eeN lw cf (p + (if 1 ≤ fr then fr else 1)).toNat (tt - (if 1 ≤ fr then fr else 1) + 1).toNat sg).1) ∧ (u1 = (eeOt (ewS ec79) eeN lw cf (p + (if 1 ≤ fr then fr else 1)).toNat (tt - (if 1 ≤ fr then fr else 1) + 1).toNat sg).2.1) ∧ (h1 = (eeOt (ewS ec79) eeN lw cf (p + (if 1 ≤ fr then fr else 1)).toNat (tt - (if 1 ≤ fr then fr else 1) + 1).toNat sg).2.2.1) ∧ (4 * c1 + h1 ≤ 4 * c0 + h0 + 320 * (tt - fr + 1)) ∧ (c0 ≤ c1) ∧ (1024 * ((q.2.2.1 : Int) - h.1) ≤ (q.2.2.2.2.2.1 bt2 : Int) - h.2.2.2.1 bt) ∧ (((q.2.2.2.1 : Int) - h.2.1) ≤ 2 * ((q.2.2.2.2.2.1 bt2 : Int) - h.2.2.2.1 bt)) ∧ ((h.2.2.2.1 bt : Int) ≤ (q.2.2.2.2.2.1 bt2 : Int)) ∧ (c1 ≤ (q.2.2.2.2.2.1 bt2 : Int)) ∧ (gSW ty9 bt2 (eeOt (ewS ec79) eeN lw cf (p + (if 1 ≤ fr then fr else 1)).toNat (tt - (if 1 ≤ fr then fr else 1) + 1).toNat sg) q.2.2) ∧ (eeOk (eeOt (ewS ec79) eeN lw cf (p + (if 1 ≤ fr then fr else 1)).toNat (tt - (if 1 ≤ fr then fr else 1) + 1).toNat sg))) := by
            intro fu
            induction fu with
            | zero => intro ty81 h80 bv2 rn2 cv2 uv2 hv2 hm; exact absurd hm (Nat.not_lt_zero _)
            | succ fu ihlp75 =>
              intro ty81 h80 bv2 rn2 cv2 uv2 hv2 lp75m lp75G lp75u lp75c0 lp75c1 lp75c2 lp75r0 lp75r1 lp75f0 lp75f1 lp75f2 lp75f3 lp75f4 lp75f5 lp75f6 lp75f7 lp75f8 lp75f9 lp75f10 lp75f11 lp75f12 lp75f13 lp75f14 lp75k0 lp75k1 lp75k2 lp75k3 lp75k4 lp75k5 lp75k6 lp75k7 lp75k8 lp75k9 lp75k10 lp75k11 lp75k12 lp75k13
              have sh80 : gSs rT 1027 ty81 [56000, 56001, 56002, 56003, 114999] h80 h80 := gSs.rf lp75G.1
              refine gz_s 2 (pc' := 55) (L' := [some (.ref x), some (.int (zi p)), some (.int (zi rn2)), some (.int (zi k)), some (.int (zi z56)), some (.int (zi (zq58 / 2 ^ (lw).toNat))), none]) (S' := [.int (zi 15), .int (zi rn2)]) rfl ?_
              by_cases hc82 : (rn2 : Int) ≤ 15
              · refine gy_icT (pc' := 72) rfl (by decide) (by decide) (by omega) (by omega) hc82 ?_
                refine gz_s 1 (pc' := 74) (L' := [some (.ref x), some (.int (zi p)), some (.int (zi rn2)), some (.int (zi k)), some (.int (zi z56)), some (.int (zi (zq58 / 2 ^ (lw).toNat))), none]) (S' := [.int (zi (zq58 / 2 ^ (lw).toNat))]) rfl ?_
                refine gz_call rfl (by decide) rfl (by decide) (by decide) (gcal_of rfl rfl rfl (Nat.le_of_ble_eq_true rfl) rfl) (cw_bitsOf _ sh80.1 (zq58 / 2 ^ (lw).toNat) ⟨by omega, by omega⟩ lp75u) (fun q83 _ wq83 => ?_)
                obtain ⟨pq83, oq83, hq83⟩ := q83
                obtain ⟨xq83, zq83, gq83, aq83, bq83, uq83_0⟩ := wq83
                refine ⟨_, gq83, ?_⟩
                show gz gPP gGG gcn _ _ 77 [some (.ref x), some (.int (zi p)), some (.int (zi rn2)), some (.int (zi k)), some (.int (zi z56)), some (.int (zi (zq58 / 2 ^ (lw).toNat))), none] [.int (zi zq83)] hq83 _
                have sq83 : gSs rT 1027 ty81 [56000, 56001, 56002, 56003, 114999] h80 hq83 := gSs.tr sh80 xq83 (by decide)
                have s84 := (xq83.2.2.2.2.2 x 0 (by rw [lp75c0]; decide)).trans lp75k0
                have s85 := (xq83.2.2.2.2.2 x 11 (by rw [lp75c0]; decide)).trans lp75k1
                have s86 := (xq83.2.2.2.2.2 x 7 (by rw [lp75c0]; decide)).trans lp75k2
                have s87 := (xq83.2.2.2.2.2 x 8 (by rw [lp75c0]; decide)).trans lp75k3
                have s88 := (xq83.2.2.2.2.2 x 10 (by rw [lp75c0]; decide)).trans lp75k4
                have s89 := (xq83.2.2.2.2.2 x 5 (by rw [lp75c0]; decide)).trans lp75k5
                have s90 := (xq83.2.2.2.2.2 x 2 (by rw [lp75c0]; decide)).trans lp75k6
                have s91 := (xq83.2.2.2.2.2 sk 1 (by rw [lp75c1]; decide)).trans lp75k7
                have s92 := (xq83.2.2.2.2.2 sk 2 (by rw [lp75c1]; decide)).trans lp75k8
                have s93 := (xq83.2.2.2.2.2 sk 3 (by rw [lp75c1]; decide)).trans lp75k9
                have s94 := (xq83.2.2.2.2.2 sk 0 (by rw [lp75c1]; decide)).trans lp75r0
                have pr95 := gTab.fr xq83.2 (fun _ => rfl) (fun _ => rfl) (by decide) (by decide) lp75k10
                have pr96 := gRn.fr xq83.2 (by decide) lp75k11
                have pr97 := gSW.fr xq83.2 (by decide) lp75k12
                have hbz : zq83 = eeL (zq58 / 2 ^ (lw).toNat) := by have h9 := uq83_0; rw [eeA_nn (by omega)] at h9; exact h9
                have hlb := eeL_b (zq58 / 2 ^ (lw).toNat)
                refine gy_s 8 (pc' := 88) (L' := [some (.ref x), some (.int (zi p)), some (.int (zi rn2)), some (.int (zi k)), some (.int (zi z56)), some (.int (zi (zq58 / 2 ^ (lw).toNat))), some (.int (zi zq83))]) (S' := [.int (((zi 16) * (zi rn2)) + (zi zq83)), .int (zi 1), .ref x]) (L2 := [some (.ref x), some (.int (zi p)), some (.int (zi rn2)), some (.int (zi k)), some (.int (zi z56)), some (.int (zi (zq58 / 2 ^ (lw).toNat))), some (.int (zi zq83))]) (S2 := [.int (zi ((16 * rn2) + zq83)), .int (zi 1), .ref x]) rfl (by simp only [zi_add, zi_sub, zi_mul, zi_neg, zi_and1, zi_and7, zi_and15, zi_and31, zi_and255]) (by simp only [zi_add, zi_sub, zi_mul, zi_neg, zi_and1, zi_and7, zi_and15, zi_and31, zi_and255]) ?_
                have k98 := sq83.2.1
                have k98b := sq83.2.2.1
                have hl99 : hq83.2.2.2.1 bv2 = h80.2.2.2.1 bv2 := congrFun sq83.2.2.2.2.1 bv2
                have hl100 : hq83.2.2.2.1 bv2 = h80.2.2.2.1 bv2 := congrFun sq83.2.2.2.2.1 bv2
                refine gz_call rfl (by decide) rfl (by decide) (by decide) (gcal_of rfl rfl rfl (Nat.le_of_ble_eq_true rfl) (gJ.recv (G := gGG) sq83.1 lp75c0 rfl rfl)) (cw_putSymbol1 _ sq83.1 x lp75c0 1 ⟨by omega, by omega⟩ ((16 * rn2) + zq83) ⟨by omega, by omega⟩ sk s84 lp75c1 bv2 s94 lp75r1 cv2 s91 ⟨by omega, by omega⟩ uv2 s92 ⟨by omega, by omega⟩ hv2 s93 ⟨by omega, by omega⟩ cg s85 ⟨by omega, by omega⟩ (eeZ (ewS ec79) (eeO (ewS ec79) eeN lw cf (p + (if 1 ≤ fr then fr else 1)).toNat sg (k - (if 1 ≤ fr then fr else 1)).toNat).2 ((rn - rn2) / 16).toNat) ec79 (by omega) (by omega) (by omega) (by omega) (by omega) lp75u pr97 lp75k13 pr95) (fun q101 _ wq101 => ?_)
                obtain ⟨pq101, oq101, hq101⟩ := q101
                obtain ⟨tyq101, xq101, cq101_0, ttq101, fq101_0, fq101_1, fq101_2, ecq101_0, tcq101_0, gq101, efq101_0, afq101_0, bfq101_0, efq101_1, afq101_1, bfq101_1, efq101_2, afq101_2, bfq101_2, uq101_0, uq101_1, uq101_2, uq101_3, uq101_4, uq101_5, uq101_6, uq101_7, uq101_8, yq101_0, yq101_1⟩ := wq101
                dsimp only at uq101_5 uq101_6 uq101_7 uq101_8
                refine ⟨_, gq101, ?_⟩
                show gz gPP gGG gcn _ _ 91 [some (.ref x), some (.int (zi p)), some (.int (zi rn2)), some (.int (zi k)), some (.int (zi z56)), some (.int (zi (zq58 / 2 ^ (lw).toNat))), some (.int (zi zq83))] [] hq101 _
                have G102 : gSg [114] [] [56000, 56001, 56002, 56003, 114999] ty h tyq101 hq101 := gSg.tr (gSg.ss lp75G sq83 (by decide)) xq101 (by decide) (by decide) (fun x hx => by cases hx)
                have t103 : tyq101 x = 71 := gSg.typ xq101 sq83.1 lp75c0 rfl
                have t104 : tyq101 sk = 56 := gSg.typ xq101 sq83.1 lp75c1 rfl
                have t105 : tyq101 c54 = 73 := gSg.typ xq101 sq83.1 lp75c2 rfl
                have t106 : tyq101 bv2 = 114 := gSg.typ xq101 sq83.1 lp75r1 rfl
                have hl107 : hq101.2.2.2.1 bv2 = hq83.2.2.2.1 bv2 := gSg.len xq101 sq83.1 lp75r1 rfl
                have s108 := gSg.at xq101 sq83.1 lp75c0 rfl (by decide) s84
                have s109 := gSg.at xq101 sq83.1 lp75c0 rfl (by decide) s85
                have s110 := gSg.at xq101 sq83.1 lp75c0 rfl (by decide) s86
                have s111 := gSg.at xq101 sq83.1 lp75c0 rfl (by decide) s87
                have s112 := gSg.at xq101 sq83.1 lp75c0 rfl (by decide) s88
                have s113 := gSg.at xq101 sq83.1 lp75c0 rfl (by decide) s89
                have s114 := gSg.at xq101 sq83.1 lp75c0 rfl (by decide) s90
                have pr115 := gTab.gr xq101 sq83.1 rfl rfl (fun _ => rfl) (fun _ => rfl) (by decide) (by decide) (by decide) (by decide) pr95
                have pr116 := gRn.gr xq101 sq83.1 rfl (by decide) (by decide) pr96
                have uq117 := gSg.uq xq101 lp75u (by decide)
                have sS118 : gSs rT 1027 tyq101 [56000, 56001, 56002, 56003, 114999] hq101 hq101 := gSs.rf xq101.1
                refine gz_s 2 (pc' := 94) (L' := [some (.ref x), some (.int (zi p)), some (.int (zi rn2)), some (.int (zi k)), some (.int (zi z56)), some (.int (zi (zq58 / 2 ^ (lw).toNat))), some (.int (zi zq83))]) (S' := [.int (zi z56), .ref x]) rfl ?_
                by_cases hc119 : (0 : Int) ≤ z56
                · refine gy_ifT (pc' := 105) rfl (by decide) (by decide) (by omega) hc119 ?_
                  refine gz_s 2 (pc' := 109) (L' := [some (.ref x), some (.int (zi p)), some (.int (zi rn2)), some (.int (zi k)), some (.int (zi z56)), some (.int (zi (zq58 / 2 ^ (lw).toNat))), some (.int (zi zq83))]) (S' := [.int (zi zq83), .int (zi (zq58 / 2 ^ (lw).toNat)), .ref x]) rfl ?_
                  have hl120 : hq101.2.2.2.1 cq101_0 = hq101.2.2.2.1 cq101_0 := congrFun sS118.2.2.2.2.1 cq101_0
                  refine gz_call rfl (by decide) rfl (by decide) (by decide) (gcal_of rfl rfl rfl (Nat.le_of_ble_eq_true rfl) (gJ.recv (G := gGG) sS118.1 t103 rfl rfl)) (cw_putPlain _ sS118.1 x t103 (zq58 / 2 ^ (lw).toNat) ⟨by omega, by omega⟩ zq83 ⟨by omega, by omega⟩ sk s108 t104 cq101_0 ecq101_0 tcq101_0 fq101_0 efq101_0 ⟨by omega, by omega⟩ fq101_1 efq101_1 ⟨by omega, by omega⟩ fq101_2 efq101_2 ⟨by omega, by omega⟩ cg s109 ⟨by omega, by omega⟩ (ewS ec79 ((16 * rn2) + zq83) (eeZ (ewS ec79) (eeO (ewS ec79) eeN lw cf (p + (if 1 ≤ fr then fr else 1)).toNat sg (k - (if 1 ≤ fr then fr else 1)).toNat).2 ((rn - rn2) / 16).toNat)) (by omega) (by omega) (by omega) (by omega) (by omega) uq117 yq101_0 yq101_1) (fun q121 _ wq121 => ?_)
                  obtain ⟨pq121, oq121, hq121⟩ := q121
                  obtain ⟨tyq121, xq121, cq121_0, ttq121, fq121_0, fq121_1, fq121_2, ecq121_0, tcq121_0, gq121, efq121_0, afq121_0, bfq121_0, efq121_1, afq121_1, bfq121_1, efq121_2, afq121_2, bfq121_2, uq121_0, uq121_1, uq121_2, uq121_3, uq121_4, uq121_5, uq121_6, uq121_7, uq121_8, yq121_0, yq121_1⟩ := wq121
                  dsimp only at uq121_5 uq121_6 uq121_7 uq121_8
                  refine ⟨_, gq121, ?_⟩
                  show gz gPP gGG gcn _ _ 112 [some (.ref x), some (.int (zi p)), some (.int (zi rn2)), some (.int (zi k)), some (.int (zi z56)), some (.int (zi (zq58 / 2 ^ (lw).toNat))), some (.int (zi zq83))] [] hq121 _
                  have G122 : gSg [114] [] [56000, 56001, 56002, 56003, 114999] ty h tyq121 hq121 := gSg.tr (gSg.ss G102 sS118 (by decide)) xq121 (by decide) (by decide) (fun x hx => by cases hx)
                  have t123 : tyq121 x = 71 := gSg.typ xq121 sS118.1 t103 rfl
                  have t124 : tyq121 sk = 56 := gSg.typ xq121 sS118.1 t104 rfl
                  have t125 : tyq121 c54 = 73 := gSg.typ xq121 sS118.1 t105 rfl
                  have t126 : tyq121 bv2 = 114 := gSg.typ xq121 sS118.1 t106 rfl
                  have hl127 : hq121.2.2.2.1 bv2 = hq101.2.2.2.1 bv2 := gSg.len xq121 sS118.1 t106 rfl
                  have t128 : tyq121 cq101_0 = 114 := gSg.typ xq121 sS118.1 tcq101_0 rfl
                  have hl129 : hq121.2.2.2.1 cq101_0 = hq101.2.2.2.1 cq101_0 := gSg.len xq121 sS118.1 tcq101_0 rfl
                  have s130 := gSg.at xq121 sS118.1 t103 rfl (by decide) s108
                  have s131 := gSg.at xq121 sS118.1 t103 rfl (by decide) s109
                  have s132 := gSg.at xq121 sS118.1 t103 rfl (by decide) s110
                  have s133 := gSg.at xq121 sS118.1 t103 rfl (by decide) s111
                  have s134 := gSg.at xq121 sS118.1 t103 rfl (by decide) s112
                  have s135 := gSg.at xq121 sS118.1 t103 rfl (by decide) s113
                  have s136 := gSg.at xq121 sS118.1 t103 rfl (by decide) s114
                  have pr137 := gTab.gr xq121 sS118.1 rfl rfl (fun _ => rfl) (fun _ => rfl) (by decide) (by decide) (by decide) (by decide) pr115
                  have pr138 := gRn.gr xq121 sS118.1 rfl (by decide) (by decide) pr116
                  have uq139 := gSg.uq xq121 uq117 (by decide)
                  have sS140 : gSs rT 1027 tyq121 [56000, 56001, 56002, 56003, 114999] hq121 hq121 := gSs.rf xq121.1
                  refine gz_s 2 (pc' := 114) (L' := [some (.ref x), some (.int (zi p)), some (.int (zi 0)), some (.int (zi k)), some (.int (zi z56)), some (.int (zi (zq58 / 2 ^ (lw).toNat))), some (.int (zi zq83))]) (S' := []) rfl ?_
                  have hO : eeO (ewS ec79) eeN lw cf (p + (if 1 ≤ fr then fr else 1)).toNat sg ((k + 1) - (if 1 ≤ fr then fr else 1)).toNat = (0, eeN (zq58 / 2 ^ (lw).toNat) (Int.toNat zq83) (ewS ec79 ((16 * rn2) + zq83) (eeZ (ewS ec79) (eeO (ewS ec79) eeN lw cf (p + (if 1 ≤ fr then fr else 1)).toNat sg (k - (if 1 ≤ fr then fr else 1)).toNat).2 ((rn - rn2) / 16).toNat))) := by
                    rw [hkj, eeO_y (a := zq58 / 2 ^ (lw).toNat) (r := rn) (s := (16 * rn2) + zq83) (V := zq58 / 2 ^ (lw).toNat) (N := zq83) (m := ((rn - rn2) / 16).toNat) hcf (by rw [hA]) (by omega) (by omega) (by omega) (by omega) (by omega) (by omega)]
                  have hO1 : (eeO (ewS ec79) eeN lw cf (p + (if 1 ≤ fr then fr else 1)).toNat sg ((k + 1) - (if 1 ≤ fr then fr else 1)).toNat).1 = 0 := by rw [hO]
                  have hk141 : (eeO (ewS ec79) eeN lw cf (p + (if 1 ≤ fr then fr else 1)).toNat sg ((k + 1) - (if 1 ≤ fr then fr else 1)).toNat).2 = eeN (zq58 / 2 ^ (lw).toNat) (Int.toNat zq83) (ewS ec79 ((16 * rn2) + zq83) (eeZ (ewS ec79) (eeO (ewS ec79) eeN lw cf (p + (if 1 ≤ fr then fr else 1)).toNat sg (k - (if 1 ≤ fr then fr else 1)).toNat).2 ((rn - rn2) / 16).toNat)) := by rw [hO]
                  have hk141_1 : ((eeO (ewS ec79) eeN lw cf (p + (if 1 ≤ fr then fr else 1)).toNat sg ((k + 1) - (if 1 ≤ fr then fr else 1)).toNat).2).1 = (eeN (zq58 / 2 ^ (lw).toNat) (Int.toNat zq83) (ewS ec79 ((16 * rn2) + zq83) (eeZ (ewS ec79) (eeO (ewS ec79) eeN lw cf (p + (if 1 ≤ fr then fr else 1)).toNat sg (k - (if 1 ≤ fr then fr else 1)).toNat).2 ((rn - rn2) / 16).toNat))).1 := by rw [hk141]
                  have hk141_21 : ((eeO (ewS ec79) eeN lw cf (p + (if 1 ≤ fr then fr else 1)).toNat sg ((k + 1) - (if 1 ≤ fr then fr else 1)).toNat).2).2.1 = (eeN (zq58 / 2 ^ (lw).toNat) (Int.toNat zq83) (ewS ec79 ((16 * rn2) + zq83) (eeZ (ewS ec79) (eeO (ewS ec79) eeN lw cf (p + (if 1 ≤ fr then fr else 1)).toNat sg (k - (if 1 ≤ fr then fr else 1)).toNat).2 ((rn - rn2) / 16).toNat))).2.1 := by rw [hk141]
                  have hk141_221 : ((eeO (ewS ec79) eeN lw cf (p + (if 1 ≤ fr then fr else 1)).toNat sg ((k + 1) - (if 1 ≤ fr then fr else 1)).toNat).2).2.2.1 = (eeN (zq58 / 2 ^ (lw).toNat) (Int.toNat zq83) (ewS ec79 ((16 * rn2) + zq83) (eeZ (ewS ec79) (eeO (ewS ec79) eeN lw cf (p + (if 1 ≤ fr then fr else 1)).toNat sg (k - (if 1 ≤ fr then fr else 1)).toNat).2 ((rn - rn2) / 16).toNat))).2.2.1 := by rw [hk141]
                  have hsw142 : gSW tyq121 cq121_0 ((eeO (ewS ec79) eeN lw cf (p + (if 1 ≤ fr then fr else 1)).toNat sg ((k + 1) - (if 1 ≤ fr then fr else 1)).toNat).2) hq121 := by rw [hk141]; exact yq121_0
                  have hok143 : eeOk ((eeO (ewS ec79) eeN lw cf (p + (if 1 ≤ fr then fr else 1)).toNat sg ((k + 1) - (if 1 ≤ fr then fr else 1)).toNat).2) := by rw [hk141]; exact yq121_1
                  have hoc144 := hok143.cur
                  refine gy_s 2 (pc' := 11) (L' := [some (.ref x), some (.int (zi p)), some (.int (zi 0)), some (.int ((zi k) + zi 1)), some (.int (zi z56)), some (.int (zi (zq58 / 2 ^ (lw).toNat))), some (.int (zi zq83))]) (S' := []) (L2 := [some (.ref x), some (.int (zi p)), some (.int (zi 0)), some (.int (zi (k + 1))), some (.int (zi z56)), some (.int (zi (zq58 / 2 ^ (lw).toNat))), some (.int (zi zq83))]) (S2 := []) rfl (by simp only [zi_add, zi_sub, zi_mul, zi_neg, zi_and1, zi_and7, zi_and15, zi_and31, zi_and255]) (by simp only [zi_add, zi_sub, zi_mul, zi_neg, zi_and1, zi_and7, zi_and15, zi_and31, zi_and255]) ?_
                  have hl145 : 1024 ≤ hq121.2.2.2.1 bv2 ∧ hq121.2.2.2.1 bv2 ≤ 1000000 := gJ.rowl (G := gGG) sS140.1 t126 rfl
                  have hl146 : 1024 ≤ hq121.2.2.2.1 cq101_0 ∧ hq121.2.2.2.1 cq101_0 ≤ 1000000 := gJ.rowl (G := gGG) sS140.1 t128 rfl
                  have hl147 : 1024 ≤ hq121.2.2.2.1 cq121_0 ∧ hq121.2.2.2.1 cq121_0 ≤ 1000000 := gJ.rowl (G := gGG) sS140.1 tcq121_0 rfl
                  have G148 : gSg [114] [] [56000, 56001, 56002, 56003, 114999] ty h tyq121 hq121 := gSg.ss G122 sS140 (by decide)
                  exact gz_wk (ihlp15 tyq121 hq121 cq121_0 0 (k + 1) fq121_0 fq121_1 fq121_2 (gms lp15m (by omega) (by omega)) G148 uq139 t123 t124 ecq121_0 tcq121_0 ⟨by omega, by omega⟩ ⟨by omega, by omega⟩ ⟨by omega, by omega⟩ ⟨by omega, by omega⟩ ⟨by omega, by omega⟩ (by omega) (by omega) (by omega) (by omega) (by omega) (by omega) (by omega) (by omega) (by omega) (by omega) (by omega) (by omega) (by omega) s130 s131 s132 s133 s134 s135 efq121_0 efq121_1 efq121_2 pr137 pr138 hsw142 hok143) (gLw.s (gLw.s (gLw.s (gLw.s (gLw.n (gLw.n (gLw.n gLw.z)))))))
                · refine gy_ifF rfl (by decide) (by decide) (by omega) hc119 ?_
                  refine gy_s 6 (pc' := 109) (L' := [some (.ref x), some (.int (zi p)), some (.int (zi rn2)), some (.int (zi k)), some (.int (zi z56)), some (.int (zi (zq58 / 2 ^ (lw).toNat))), some (.int (zi zq83))]) (S' := [.int (zi zq83), .int ((-(zi (zq58 / 2 ^ (lw).toNat))) - (zi 1)), .ref x]) (L2 := [some (.ref x), some (.int (zi p)), some (.int (zi rn2)), some (.int (zi k)), some (.int (zi z56)), some (.int (zi (zq58 / 2 ^ (lw).toNat))), some (.int (zi zq83))]) (S2 := [.int (zi zq83), .int (zi ((-(zq58 / 2 ^ (lw).toNat)) - 1)), .ref x]) rfl (by simp only [zi_add, zi_sub, zi_mul, zi_neg, zi_and1, zi_and7, zi_and15, zi_and31, zi_and255]) (by simp only [zi_add, zi_sub, zi_mul, zi_neg, zi_and1, zi_and7, zi_and15, zi_and31, zi_and255]) ?_
                  have hl149 : hq101.2.2.2.1 cq101_0 = hq101.2.2.2.1 cq101_0 := congrFun sS118.2.2.2.2.1 cq101_0
                  refine gz_call rfl (by decide) rfl (by decide) (by decide) (gcal_of rfl rfl rfl (Nat.le_of_ble_eq_true rfl) (gJ.recv (G := gGG) sS118.1 t103 rfl rfl)) (cw_putPlain _ sS118.1 x t103 ((-(zq58 / 2 ^ (lw).toNat)) - 1) ⟨by omega, by omega⟩ zq83 ⟨by omega, by omega⟩ sk s108 t104 cq101_0 ecq101_0 tcq101_0 fq101_0 efq101_0 ⟨by omega, by omega⟩ fq101_1 efq101_1 ⟨by omega, by omega⟩ fq101_2 efq101_2 ⟨by omega, by omega⟩ cg s109 ⟨by omega, by omega⟩ (ewS ec79 ((16 * rn2) + zq83) (eeZ (ewS ec79) (eeO (ewS ec79) eeN lw cf (p + (if 1 ≤ fr then fr else 1)).toNat sg (k - (if 1 ≤ fr then fr else 1)).toNat).2 ((rn - rn2) / 16).toNat)) (by omega) (by omega) (by omega) (by omega) (by omega) uq117 yq101_0 yq101_1) (fun q150 _ wq150 => ?_)
                  obtain ⟨pq150, oq150, hq150⟩ := q150
                  obtain ⟨tyq150, xq150, cq150_0, ttq150, fq150_0, fq150_1, fq150_2, ecq150_0, tcq150_0, gq150, efq150_0, afq150_0, bfq150_0, efq150_1, afq150_1, bfq150_1, efq150_2, afq150_2, bfq150_2, uq150_0, uq150_1, uq150_2, uq150_3, uq150_4, uq150_5, uq150_6, uq150_7, uq150_8, yq150_0, yq150_1⟩ := wq150
                  dsimp only at uq150_5 uq150_6 uq150_7 uq150_8
                  refine ⟨_, gq150, ?_⟩
                  show gz gPP gGG gcn _ _ 112 [some (.ref x), some (.int (zi p)), some (.int (zi rn2)), some (.int (zi k)), some (.int (zi z56)), some (.int (zi (zq58 / 2 ^ (lw).toNat))), some (.int (zi zq83))] [] hq150 _
                  have G151 : gSg [114] [] [56000, 56001, 56002, 56003, 114999] ty h tyq150 hq150 := gSg.tr (gSg.ss G102 sS118 (by decide)) xq150 (by decide) (by decide) (fun x hx => by cases hx)
                  have t152 : tyq150 x = 71 := gSg.typ xq150 sS118.1 t103 rfl
                  have t153 : tyq150 sk = 56 := gSg.typ xq150 sS118.1 t104 rfl
                  have t154 : tyq150 c54 = 73 := gSg.typ xq150 sS118.1 t105 rfl
                  have t155 : tyq150 bv2 = 114 := gSg.typ xq150 sS118.1 t106 rfl
                  have hl156 : hq150.2.2.2.1 bv2 = hq101.2.2.2.1 bv2 := gSg.len xq150 sS118.1 t106 rfl
                  have t157 : tyq150 cq101_0 = 114 := gSg.typ xq150 sS118.1 tcq101_0 rfl
                  have hl158 : hq150.2.2.2.1 cq101_0 = hq101.2.2.2.1 cq101_0 := gSg.len xq150 sS118.1 tcq101_0 rfl
                  have s159 := gSg.at xq150 sS118.1 t103 rfl (by decide) s108
                  have s160 := gSg.at xq150 sS118.1 t103 rfl (by decide) s109
                  have s161 := gSg.at xq150 sS118.1 t103 rfl (by decide) s110
                  have s162 := gSg.at xq150 sS118.1 t103 rfl (by decide) s111
                  have s163 := gSg.at xq150 sS118.1 t103 rfl (by decide) s112
                  have s164 := gSg.at xq150 sS118.1 t103 rfl (by decide) s113
                  have s165 := gSg.at xq150 sS118.1 t103 rfl (by decide) s114
                  have pr166 := gTab.gr xq150 sS118.1 rfl rfl (fun _ => rfl) (fun _ => rfl) (by decide) (by decide) (by decide) (by decide) pr115
                  have pr167 := gRn.gr xq150 sS118.1 rfl (by decide) (by decide) pr116
                  have uq168 := gSg.uq xq150 uq117 (by decide)
                  have sS169 : gSs rT 1027 tyq150 [56000, 56001, 56002, 56003, 114999] hq150 hq150 := gSs.rf xq150.1
                  refine gz_s 2 (pc' := 114) (L' := [some (.ref x), some (.int (zi p)), some (.int (zi 0)), some (.int (zi k)), some (.int (zi z56)), some (.int (zi (zq58 / 2 ^ (lw).toNat))), some (.int (zi zq83))]) (S' := []) rfl ?_
                  have hO : eeO (ewS ec79) eeN lw cf (p + (if 1 ≤ fr then fr else 1)).toNat sg ((k + 1) - (if 1 ≤ fr then fr else 1)).toNat = (0, eeN ((-(zq58 / 2 ^ (lw).toNat)) - 1) (Int.toNat zq83) (ewS ec79 ((16 * rn2) + zq83) (eeZ (ewS ec79) (eeO (ewS ec79) eeN lw cf (p + (if 1 ≤ fr then fr else 1)).toNat sg (k - (if 1 ≤ fr then fr else 1)).toNat).2 ((rn - rn2) / 16).toNat))) := by
                    rw [hkj, eeO_y (a := zq58 / 2 ^ (lw).toNat) (r := rn) (s := (16 * rn2) + zq83) (V := (-(zq58 / 2 ^ (lw).toNat)) - 1) (N := zq83) (m := ((rn - rn2) / 16).toNat) hcf (by rw [hA]) (by omega) (by omega) (by omega) (by omega) (by omega) (by omega)]
                  have hO1 : (eeO (ewS ec79) eeN lw cf (p + (if 1 ≤ fr then fr else 1)).toNat sg ((k + 1) - (if 1 ≤ fr then fr else 1)).toNat).1 = 0 := by rw [hO]
                  have hk170 : (eeO (ewS ec79) eeN lw cf (p + (if 1 ≤ fr then fr else 1)).toNat sg ((k + 1) - (if 1 ≤ fr then fr else 1)).toNat).2 = eeN ((-(zq58 / 2 ^ (lw).toNat)) - 1) (Int.toNat zq83) (ewS ec79 ((16 * rn2) + zq83) (eeZ (ewS ec79) (eeO (ewS ec79) eeN lw cf (p + (if 1 ≤ fr then fr else 1)).toNat sg (k - (if 1 ≤ fr then fr else 1)).toNat).2 ((rn - rn2) / 16).toNat)) := by rw [hO]
                  have hk170_1 : ((eeO (ewS ec79) eeN lw cf (p + (if 1 ≤ fr then fr else 1)).toNat sg ((k + 1) - (if 1 ≤ fr then fr else 1)).toNat).2).1 = (eeN ((-(zq58 / 2 ^ (lw).toNat)) - 1) (Int.toNat zq83) (ewS ec79 ((16 * rn2) + zq83) (eeZ (ewS ec79) (eeO (ewS ec79) eeN lw cf (p + (if 1 ≤ fr then fr else 1)).toNat sg (k - (if 1 ≤ fr then fr else 1)).toNat).2 ((rn - rn2) / 16).toNat))).1 := by rw [hk170]
                  have hk170_21 : ((eeO (ewS ec79) eeN lw cf (p + (if 1 ≤ fr then fr else 1)).toNat sg ((k + 1) - (if 1 ≤ fr then fr else 1)).toNat).2).2.1 = (eeN ((-(zq58 / 2 ^ (lw).toNat)) - 1) (Int.toNat zq83) (ewS ec79 ((16 * rn2) + zq83) (eeZ (ewS ec79) (eeO (ewS ec79) eeN lw cf (p + (if 1 ≤ fr then fr else 1)).toNat sg (k - (if 1 ≤ fr then fr else 1)).toNat).2 ((rn - rn2) / 16).toNat))).2.1 := by rw [hk170]
                  have hk170_221 : ((eeO (ewS ec79) eeN lw cf (p + (if 1 ≤ fr then fr else 1)).toNat sg ((k + 1) - (if 1 ≤ fr then fr else 1)).toNat).2).2.2.1 = (eeN ((-(zq58 / 2 ^ (lw).toNat)) - 1) (Int.toNat zq83) (ewS ec79 ((16 * rn2) + zq83) (eeZ (ewS ec79) (eeO (ewS ec79) eeN lw cf (p + (if 1 ≤ fr then fr else 1)).toNat sg (k - (if 1 ≤ fr then fr else 1)).toNat).2 ((rn - rn2) / 16).toNat))).2.2.1 := by rw [hk170]
                  have hsw171 : gSW tyq150 cq150_0 ((eeO (ewS ec79) eeN lw cf (p + (if 1 ≤ fr then fr else 1)).toNat sg ((k + 1) - (if 1 ≤ fr then fr else 1)).toNat).2) hq150 := by rw [hk170]; exact yq150_0
                  have hok172 : eeOk ((eeO (ewS ec79) eeN lw cf (p + (if 1 ≤ fr then fr else 1)).toNat sg ((k + 1) - (if 1 ≤ fr then fr else 1)).toNat).2) := by rw [hk170]; exact yq150_1
                  have hoc173 := hok172.cur
                  refine gy_s 2 (pc' := 11) (L' := [some (.ref x), some (.int (zi p)), some (.int (zi 0)), some (.int ((zi k) + zi 1)), some (.int (zi z56)), some (.int (zi (zq58 / 2 ^ (lw).toNat))), some (.int (zi zq83))]) (S' := []) (L2 := [some (.ref x), some (.int (zi p)), some (.int (zi 0)), some (.int (zi (k + 1))), some (.int (zi z56)), some (.int (zi (zq58 / 2 ^ (lw).toNat))), some (.int (zi zq83))]) (S2 := []) rfl (by simp only [zi_add, zi_sub, zi_mul, zi_neg, zi_and1, zi_and7, zi_and15, zi_and31, zi_and255]) (by simp only [zi_add, zi_sub, zi_mul, zi_neg, zi_and1, zi_and7, zi_and15, zi_and31, zi_and255]) ?_
                  have hl174 : 1024 ≤ hq150.2.2.2.1 bv2 ∧ hq150.2.2.2.1 bv2 ≤ 1000000 := gJ.rowl (G := gGG) sS169.1 t155 rfl
                  have hl175 : 1024 ≤ hq150.2.2.2.1 cq101_0 ∧ hq150.2.2.2.1 cq101_0 ≤ 1000000 := gJ.rowl (G := gGG) sS169.1 t157 rfl
                  have hl176 : 1024 ≤ hq150.2.2.2.1 cq150_0 ∧ hq150.2.2.2.1 cq150_0 ≤ 1000000 := gJ.rowl (G := gGG) sS169.1 tcq150_0 rfl
                  have G177 : gSg [114] [] [56000, 56001, 56002, 56003, 114999] ty h tyq150 hq150 := gSg.ss G151 sS169 (by decide)
                  exact gz_wk (ihlp15 tyq150 hq150 cq150_0 0 (k + 1) fq150_0 fq150_1 fq150_2 (gms lp15m (by omega) (by omega)) G177 uq168 t152 t153 ecq150_0 tcq150_0 ⟨by omega, by omega⟩ ⟨by omega, by omega⟩ ⟨by omega, by omega⟩ ⟨by omega, by omega⟩ ⟨by omega, by omega⟩ (by omega) (by omega) (by omega) (by omega) (by omega) (by omega) (by omega) (by omega) (by omega) (by omega) (by omega) (by omega) (by omega) s159 s160 s161 s162 s163 s164 efq150_0 efq150_1 efq150_2 pr166 pr167 hsw171 hok172) (gLw.s (gLw.s (gLw.s (gLw.s (gLw.n (gLw.n (gLw.n gLw.z)))))))
              · refine gy_icF rfl (by decide) (by decide) (by omega) (by omega) hc82 ?_
                refine gz_s 3 (pc' := 63) (L' := [some (.ref x), some (.int (zi p)), some (.int (zi rn2)), some (.int (zi k)), some (.int (zi z56)), some (.int (zi (zq58 / 2 ^ (lw).toNat))), none]) (S' := [.int (zi 240), .int (zi 1), .ref x]) rfl ?_
                have hl178 : h80.2.2.2.1 bv2 = h80.2.2.2.1 bv2 := congrFun sh80.2.2.2.2.1 bv2
                refine gz_call rfl (by decide) rfl (by decide) (by decide) (gcal_of rfl rfl rfl (Nat.le_of_ble_eq_true rfl) (gJ.recv (G := gGG) sh80.1 lp75c0 rfl rfl)) (cw_putSymbol1 _ sh80.1 x lp75c0 1 ⟨by omega, by omega⟩ 240 ⟨by omega, by omega⟩ sk lp75k0 lp75c1 bv2 lp75r0 lp75r1 cv2 lp75k7 ⟨by omega, by omega⟩ uv2 lp75k8 ⟨by omega, by omega⟩ hv2 lp75k9 ⟨by omega, by omega⟩ cg lp75k1 ⟨by omega, by omega⟩ (eeZ (ewS ec79) (eeO (ewS ec79) eeN lw cf (p + (if 1 ≤ fr then fr else 1)).toNat sg (k - (if 1 ≤ fr then fr else 1)).toNat).2 ((rn - rn2) / 16).toNat) ec79 (by omega) (by omega) (by omega) (by omega) (by omega) lp75u lp75k12 lp75k13 lp75k10) (fun q179 _ wq179 => ?_)
                obtain ⟨pq179, oq179, hq179⟩ := q179
                obtain ⟨tyq179, xq179, cq179_0, ttq179, fq179_0, fq179_1, fq179_2, ecq179_0, tcq179_0, gq179, efq179_0, afq179_0, bfq179_0, efq179_1, afq179_1, bfq179_1, efq179_2, afq179_2, bfq179_2, uq179_0, uq179_1, uq179_2, uq179_3, uq179_4, uq179_5, uq179_6, uq179_7, uq179_8, yq179_0, yq179_1⟩ := wq179
                dsimp only at uq179_5 uq179_6 uq179_7 uq179_8
                refine ⟨_, gq179, ?_⟩
                show gz gPP gGG gcn _ _ 66 [some (.ref x), some (.int (zi p)), some (.int (zi rn2)), some (.int (zi k)), some (.int (zi z56)), some (.int (zi (zq58 / 2 ^ (lw).toNat))), none] [] hq179 _
                have G180 : gSg [114] [] [56000, 56001, 56002, 56003, 114999] ty h tyq179 hq179 := gSg.tr (gSg.ss lp75G sh80 (by decide)) xq179 (by decide) (by decide) (fun x hx => by cases hx)
                have t181 : tyq179 x = 71 := gSg.typ xq179 sh80.1 lp75c0 rfl
                have t182 : tyq179 sk = 56 := gSg.typ xq179 sh80.1 lp75c1 rfl
                have t183 : tyq179 c54 = 73 := gSg.typ xq179 sh80.1 lp75c2 rfl
                have t184 : tyq179 bv2 = 114 := gSg.typ xq179 sh80.1 lp75r1 rfl
                have hl185 : hq179.2.2.2.1 bv2 = h80.2.2.2.1 bv2 := gSg.len xq179 sh80.1 lp75r1 rfl
                have s186 := gSg.at xq179 sh80.1 lp75c0 rfl (by decide) lp75k0
                have s187 := gSg.at xq179 sh80.1 lp75c0 rfl (by decide) lp75k1
                have s188 := gSg.at xq179 sh80.1 lp75c0 rfl (by decide) lp75k2
                have s189 := gSg.at xq179 sh80.1 lp75c0 rfl (by decide) lp75k3
                have s190 := gSg.at xq179 sh80.1 lp75c0 rfl (by decide) lp75k4
                have s191 := gSg.at xq179 sh80.1 lp75c0 rfl (by decide) lp75k5
                have s192 := gSg.at xq179 sh80.1 lp75c0 rfl (by decide) lp75k6
                have pr193 := gTab.gr xq179 sh80.1 rfl rfl (fun _ => rfl) (fun _ => rfl) (by decide) (by decide) (by decide) (by decide) lp75k10
                have pr194 := gRn.gr xq179 sh80.1 rfl (by decide) (by decide) lp75k11
                have uq195 := gSg.uq xq179 lp75u (by decide)
                have sS196 : gSs rT 1027 tyq179 [56000, 56001, 56002, 56003, 114999] hq179 hq179 := gSs.rf xq179.1
                have hk197 : eeZ (ewS ec79) (eeO (ewS ec79) eeN lw cf (p + (if 1 ≤ fr then fr else 1)).toNat sg (k - (if 1 ≤ fr then fr else 1)).toNat).2 ((rn - (rn2 + (-16))) / 16).toNat = ewS ec79 240 (eeZ (ewS ec79) (eeO (ewS ec79) eeN lw cf (p + (if 1 ≤ fr then fr else 1)).toNat sg (k - (if 1 ≤ fr then fr else 1)).toNat).2 ((rn - rn2) / 16).toNat) := eeZ_1 (by omega)
                have hk197_1 : (eeZ (ewS ec79) (eeO (ewS ec79) eeN lw cf (p + (if 1 ≤ fr then fr else 1)).toNat sg (k - (if 1 ≤ fr then fr else 1)).toNat).2 ((rn - (rn2 + (-16))) / 16).toNat).1 = (ewS ec79 240 (eeZ (ewS ec79) (eeO (ewS ec79) eeN lw cf (p + (if 1 ≤ fr then fr else 1)).toNat sg (k - (if 1 ≤ fr then fr else 1)).toNat).2 ((rn - rn2) / 16).toNat)).1 := by rw [hk197]
                have hk197_21 : (eeZ (ewS ec79) (eeO (ewS ec79) eeN lw cf (p + (if 1 ≤ fr then fr else 1)).toNat sg (k - (if 1 ≤ fr then fr else 1)).toNat).2 ((rn - (rn2 + (-16))) / 16).toNat).2.1 = (ewS ec79 240 (eeZ (ewS ec79) (eeO (ewS ec79) eeN lw cf (p + (if 1 ≤ fr then fr else 1)).toNat sg (k - (if 1 ≤ fr then fr else 1)).toNat).2 ((rn - rn2) / 16).toNat)).2.1 := by rw [hk197]
                have hk197_221 : (eeZ (ewS ec79) (eeO (ewS ec79) eeN lw cf (p + (if 1 ≤ fr then fr else 1)).toNat sg (k - (if 1 ≤ fr then fr else 1)).toNat).2 ((rn - (rn2 + (-16))) / 16).toNat).2.2.1 = (ewS ec79 240 (eeZ (ewS ec79) (eeO (ewS ec79) eeN lw cf (p + (if 1 ≤ fr then fr else 1)).toNat sg (k - (if 1 ≤ fr then fr else 1)).toNat).2 ((rn - rn2) / 16).toNat)).2.2.1 := by rw [hk197]
                have hsw198 : gSW tyq179 cq179_0 (eeZ (ewS ec79) (eeO (ewS ec79) eeN lw cf (p + (if 1 ≤ fr then fr else 1)).toNat sg (k - (if 1 ≤ fr then fr else 1)).toNat).2 ((rn - (rn2 + (-16))) / 16).toNat) hq179 := by rw [hk197]; exact yq179_0
                have hok199 : eeOk (eeZ (ewS ec79) (eeO (ewS ec79) eeN lw cf (p + (if 1 ≤ fr then fr else 1)).toNat sg (k - (if 1 ≤ fr then fr else 1)).toNat).2 ((rn - (rn2 + (-16))) / 16).toNat) := by rw [hk197]; exact yq179_1
                have hoc200 := hok199.cur
                refine gy_s 2 (pc' := 52) (L' := [some (.ref x), some (.int (zi p)), some (.int ((zi rn2) + zi (-16))), some (.int (zi k)), some (.int (zi z56)), some (.int (zi (zq58 / 2 ^ (lw).toNat))), none]) (S' := []) (L2 := [some (.ref x), some (.int (zi p)), some (.int (zi (rn2 + (-16)))), some (.int (zi k)), some (.int (zi z56)), some (.int (zi (zq58 / 2 ^ (lw).toNat))), none]) (S2 := []) rfl (by simp only [zi_add, zi_sub, zi_mul, zi_neg, zi_and1, zi_and7, zi_and15, zi_and31, zi_and255]) (by simp only [zi_add, zi_sub, zi_mul, zi_neg, zi_and1, zi_and7, zi_and15, zi_and31, zi_and255]) ?_
                have hl201 : 1024 ≤ hq179.2.2.2.1 bv2 ∧ hq179.2.2.2.1 bv2 ≤ 1000000 := gJ.rowl (G := gGG) sS196.1 t184 rfl
                have hl202 : 1024 ≤ hq179.2.2.2.1 cq179_0 ∧ hq179.2.2.2.1 cq179_0 ≤ 1000000 := gJ.rowl (G := gGG) sS196.1 tcq179_0 rfl
                have G203 : gSg [114] [] [56000, 56001, 56002, 56003, 114999] ty h tyq179 hq179 := gSg.ss G180 sS196 (by decide)
                exact gz_wk (ihlp75 tyq179 hq179 cq179_0 (rn2 + (-16)) fq179_0 fq179_1 fq179_2 (gms lp75m (by omega) (by omega)) G203 uq195 t181 t182 t183 ecq179_0 tcq179_0 ⟨by omega, by omega⟩ ⟨by omega, by omega⟩ ⟨by omega, by omega⟩ ⟨by omega, by omega⟩ (by omega) (by omega) (by omega) (by omega) (by omega) (by omega) (by omega) (by omega) (by omega) (by omega) (by omega) s186 s187 s188 s189 s190 s191 s192 efq179_0 efq179_1 efq179_2 pr193 pr194 hsw198 hok199) (gLw.s (gLw.s (gLw.s (gLw.s (gLw.s (gLw.s (gLw.n gLw.z)))))))
          have k204 := sq58.2.1
          have k204b := sq58.2.2.1
          have hl205 : hq58.2.2.2.1 bv = h20.2.2.2.1 bv := congrFun sq58.2.2.2.2.1 bv
          have hl206 : 1024 ≤ hq58.2.2.2.1 bv ∧ hq58.2.2.2.1 bv ≤ 1000000 := gJ.rowl (G := gGG) sq58.1 lp15r1 rfl
          have G207 : gSg [114] [] [56000, 56001, 56002, 56003, 114999] ty h ty21 hq58 := gSg.ss lp15G sq58 (by decide)
          exact gz_wk (lp75 _ ty21 hq58 bv rn cv uv hv (Nat.lt_succ_self _) G207 lp15u lp15c0 lp15c1 tc54 s68 lp15r1 ⟨by omega, by omega⟩ ⟨by omega, by omega⟩ ⟨by omega, by omega⟩ ⟨by omega, by omega⟩ (by omega) (by omega) (by omega) (by omega) (by omega) (by omega) (by omega) (by omega) (by omega) (by omega) (by omega) s59 s60 s61 s62 s63 s64 s69 s65 s66 s67 pr70 pr71 hsw77 hok78) (gLw.s (gLw.s (gLw.s (gLw.s (gLw.s (gLw.s (gLw.n gLw.z)))))))
        · refine gy_ifF rfl (by decide) (by decide) (by omega) hc74 ?_
          refine gy_s 2 (pc' := 114) (L' := [some (.ref x), some (.int (zi p)), some (.int ((zi rn) + zi 1)), some (.int (zi k)), some (.int (zi z56)), some (.int (zi (zq58 / 2 ^ (lw).toNat))), none]) (S' := []) (L2 := [some (.ref x), some (.int (zi p)), some (.int (zi (rn + 1))), some (.int (zi k)), some (.int (zi z56)), some (.int (zi (zq58 / 2 ^ (lw).toNat))), none]) (S2 := []) rfl (by simp only [zi_add, zi_sub, zi_mul, zi_neg, zi_and1, zi_and7, zi_and15, zi_and31, zi_and255]) (by simp only [zi_add, zi_sub, zi_mul, zi_neg, zi_and1, zi_and7, zi_and15, zi_and31, zi_and255]) ?_
          have hO : eeO (ewS ec79) eeN lw cf (p + (if 1 ≤ fr then fr else 1)).toNat sg ((k + 1) - (if 1 ≤ fr then fr else 1)).toNat = (rn + 1, (eeO (ewS ec79) eeN lw cf (p + (if 1 ≤ fr then fr else 1)).toNat sg (k - (if 1 ≤ fr then fr else 1)).toNat).2) := by rw [hkj, eeO_z hcf (by rw [← hA]; omega)]; rw [show (eeO (ewS ec79) eeN lw cf (p + (if 1 ≤ fr then fr else 1)).toNat sg (k - (if 1 ≤ fr then fr else 1)).toNat).1 = rn by omega]
          have hO1 : (eeO (ewS ec79) eeN lw cf (p + (if 1 ≤ fr then fr else 1)).toNat sg ((k + 1) - (if 1 ≤ fr then fr else 1)).toNat).1 = rn + 1 := by rw [hO]
          have hk208 : (eeO (ewS ec79) eeN lw cf (p + (if 1 ≤ fr then fr else 1)).toNat sg ((k + 1) - (if 1 ≤ fr then fr else 1)).toNat).2 = (eeO (ewS ec79) eeN lw cf (p + (if 1 ≤ fr then fr else 1)).toNat sg (k - (if 1 ≤ fr then fr else 1)).toNat).2 := by rw [hO]
          have hk208_1 : ((eeO (ewS ec79) eeN lw cf (p + (if 1 ≤ fr then fr else 1)).toNat sg ((k + 1) - (if 1 ≤ fr then fr else 1)).toNat).2).1 = ((eeO (ewS ec79) eeN lw cf (p + (if 1 ≤ fr then fr else 1)).toNat sg (k - (if 1 ≤ fr then fr else 1)).toNat).2).1 := by rw [hk208]
          have hk208_21 : ((eeO (ewS ec79) eeN lw cf (p + (if 1 ≤ fr then fr else 1)).toNat sg ((k + 1) - (if 1 ≤ fr then fr else 1)).toNat).2).2.1 = ((eeO (ewS ec79) eeN lw cf (p + (if 1 ≤ fr then fr else 1)).toNat sg (k - (if 1 ≤ fr then fr else 1)).toNat).2).2.1 := by rw [hk208]
          have hk208_221 : ((eeO (ewS ec79) eeN lw cf (p + (if 1 ≤ fr then fr else 1)).toNat sg ((k + 1) - (if 1 ≤ fr then fr else 1)).toNat).2).2.2.1 = ((eeO (ewS ec79) eeN lw cf (p + (if 1 ≤ fr then fr else 1)).toNat sg (k - (if 1 ≤ fr then fr else 1)).toNat).2).2.2.1 := by rw [hk208]
          have hsw209 : gSW ty21 bv ((eeO (ewS ec79) eeN lw cf (p + (if 1 ≤ fr then fr else 1)).toNat sg ((k + 1) - (if 1 ≤ fr then fr else 1)).toNat).2) hq58 := by rw [hk208]; exact pr72
          have hok210 : eeOk ((eeO (ewS ec79) eeN lw cf (p + (if 1 ≤ fr then fr else 1)).toNat sg ((k + 1) - (if 1 ≤ fr then fr else 1)).toNat).2) := by rw [hk208]; exact lp15k12
          have hoc211 := hok210.cur
          refine gy_s 2 (pc' := 11) (L' := [some (.ref x), some (.int (zi p)), some (.int (zi (rn + 1))), some (.int ((zi k) + zi 1)), some (.int (zi z56)), some (.int (zi (zq58 / 2 ^ (lw).toNat))), none]) (S' := []) (L2 := [some (.ref x), some (.int (zi p)), some (.int (zi (rn + 1))), some (.int (zi (k + 1))), some (.int (zi z56)), some (.int (zi (zq58 / 2 ^ (lw).toNat))), none]) (S2 := []) rfl (by simp only [zi_add, zi_sub, zi_mul, zi_neg, zi_and1, zi_and7, zi_and15, zi_and31, zi_and255]) (by simp only [zi_add, zi_sub, zi_mul, zi_neg, zi_and1, zi_and7, zi_and15, zi_and31, zi_and255]) ?_
          have k212 := sq58.2.1
          have k212b := sq58.2.2.1
          have hl213 : hq58.2.2.2.1 bv = h20.2.2.2.1 bv := congrFun sq58.2.2.2.2.1 bv
          have hl214 : 1024 ≤ hq58.2.2.2.1 bv ∧ hq58.2.2.2.1 bv ≤ 1000000 := gJ.rowl (G := gGG) sq58.1 lp15r1 rfl
          have G215 : gSg [114] [] [56000, 56001, 56002, 56003, 114999] ty h ty21 hq58 := gSg.ss lp15G sq58 (by decide)
          exact gz_wk (ihlp15 ty21 hq58 bv (rn + 1) (k + 1) cv uv hv (gms lp15m (by omega) (by omega)) G215 lp15u lp15c0 lp15c1 s68 lp15r1 ⟨by omega, by omega⟩ ⟨by omega, by omega⟩ ⟨by omega, by omega⟩ ⟨by omega, by omega⟩ ⟨by omega, by omega⟩ (by omega) (by omega) (by omega) (by omega) (by omega) (by omega) (by omega) (by omega) (by omega) (by omega) (by omega) (by omega) (by omega) s59 s60 s61 s62 s63 s64 s65 s66 s67 pr70 pr71 hsw209 hok210) (gLw.s (gLw.s (gLw.s (gLw.s (gLw.n (gLw.n (gLw.n gLw.z)))))))
  have hk00 : (eeO (ewS ec79) eeN lw cf (p + (if 1 ≤ fr then fr else 1)).toNat sg (zq1 - (if 1 ≤ fr then fr else 1)).toNat).1 = 0 := by rw [show (zq1 - (if 1 ≤ fr then fr else 1)).toNat = 0 by omega]; rfl
  have k216 := sq1.2.1
  have k216b := sq1.2.2.1
  have hl217 : hq1.2.2.2.1 bt = h.2.2.2.1 bt := congrFun sq1.2.2.2.2.1 bt
  have hl218 : 1024 ≤ hq1.2.2.2.1 bt ∧ hq1.2.2.2.1 bt ≤ 1000000 := gJ.rowl (G := gGG) sq1.1 tbt rfl
  have G219 : gSg [114] [] [56000, 56001, 56002, 56003, 114999] ty h ty hq1 := gSg.ss G0 sq1 (by decide)
  exact gz_wk (lp15 _ ty hq1 bt 0 zq1 c0 u0 h0 (Nat.lt_succ_self _) G219 uq tx tsk s3 tbt ⟨by omega, by omega⟩ ⟨by omega, by omega⟩ ⟨by omega, by omega⟩ ⟨by omega, by omega⟩ ⟨by omega, by omega⟩ (by omega) (by omega) (by omega) (by omega) (by omega) (by omega) (by omega) (by omega) (by omega) (by omega) (by omega) (by omega) (by omega) s2 s7 s8 s9 s10 s11 s4 s5 s6 pr13 pr14 hsw17 hok18) (gLw.s (gLw.s (gLw.s (gLw.s (gLw.n (gLw.n (gLw.n gLw.z)))))))
