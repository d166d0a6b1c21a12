/-! ===== the reference is made (by program) ===== -/
def gzuL : List Int := [0, 1, 0, 0, 1, 2, 3, 2, 1, 0, 0, 1, 2, 3, 4, 5, 4, 3, 2, 1, 0, 0, 1, 2, 3, 4, 5, 6, 7, 6, 5, 4, 3, 2, 1, 0, 1, 2, 3, 4, 5, 6, 7, 7, 6, 5, 4, 3, 2, 3, 4, 5, 6, 7, 7, 6, 5, 4, 5, 6, 7, 7, 6, 7, 7]
def gzvL : List Int := [0, 0, 1, 2, 1, 0, 0, 1, 2, 3, 4, 3, 2, 1, 0, 0, 1, 2, 3, 4, 5, 6, 5, 4, 3, 2, 1, 0, 0, 1, 2, 3, 4, 5, 6, 7, 7, 6, 5, 4, 3, 2, 1, 2, 3, 4, 5, 6, 7, 7, 6, 5, 4, 3, 4, 5, 6, 7, 7, 6, 5, 6, 7, 7, 8]
def gzu (n : Nat) : Int := gzuL.getD n 0
def gzv (n : Nat) : Int := gzvL.getD n 0
theorem gzz0_0 : ∀ n : Fin 64, 0 ≤ gzu n.val := by decide +kernel
theorem gzz0_1 : ∀ n : Fin 64, gzu n.val ≤ 7 := by decide +kernel
theorem gzz0_2 : ∀ n : Fin 64, 0 ≤ gzv n.val := by decide +kernel
theorem gzz0_3 : ∀ n : Fin 64, gzv n.val ≤ 7 := by decide +kernel
theorem gzz0_4 : ∀ n : Fin 64, ((gzu n.val + gzv n.val) % 2 = 0 → gzu n.val = 7 → (gzu (n.val + 1) = gzu n.val ∧ gzv (n.val + 1) = gzv n.val + 1)) := by decide +kernel
theorem gzz0_5 : ∀ n : Fin 64, ((gzu n.val + gzv n.val) % 2 = 0 → ¬ gzu n.val = 7 → gzv n.val = 0 → (gzu (n.val + 1) = gzu n.val + 1 ∧ gzv (n.val + 1) = gzv n.val)) := by decide +kernel
theorem gzz0_6 : ∀ n : Fin 64, ((gzu n.val + gzv n.val) % 2 = 0 → ¬ gzu n.val = 7 → ¬ gzv n.val = 0 → (gzu (n.val + 1) = gzu n.val + 1 ∧ gzv (n.val + 1) = gzv n.val - 1)) := by decide +kernel
theorem gzz0_7 : ∀ n : Fin 64, (¬ (gzu n.val + gzv n.val) % 2 = 0 → gzv n.val = 7 → (gzu (n.val + 1) = gzu n.val + 1 ∧ gzv (n.val + 1) = gzv n.val)) := by decide +kernel
theorem gzz0_8 : ∀ n : Fin 64, (¬ (gzu n.val + gzv n.val) % 2 = 0 → ¬ gzv n.val = 7 → gzu n.val = 0 → (gzu (n.val + 1) = gzu n.val ∧ gzv (n.val + 1) = gzv n.val + 1)) := by decide +kernel
theorem gzz0_9 : ∀ n : Fin 64, (¬ (gzu n.val + gzv n.val) % 2 = 0 → ¬ gzv n.val = 7 → ¬ gzu n.val = 0 → (gzu (n.val + 1) = gzu n.val - 1 ∧ gzv (n.val + 1) = gzv n.val + 1)) := by decide +kernel
theorem gzz0 : ∀ n : Fin 64, 0 ≤ gzu n.val ∧ gzu n.val ≤ 7 ∧ 0 ≤ gzv n.val ∧ gzv n.val ≤ 7 ∧ ((gzu n.val + gzv n.val) % 2 = 0 → gzu n.val = 7 → (gzu (n.val + 1) = gzu n.val ∧ gzv (n.val + 1) = gzv n.val + 1)) ∧ ((gzu n.val + gzv n.val) % 2 = 0 → ¬ gzu n.val = 7 → gzv n.val = 0 → (gzu (n.val + 1) = gzu n.val + 1 ∧ gzv (n.val + 1) = gzv n.val)) ∧ ((gzu n.val + gzv n.val) % 2 = 0 → ¬ gzu n.val = 7 → ¬ gzv n.val = 0 → (gzu (n.val + 1) = gzu n.val + 1 ∧ gzv (n.val + 1) = gzv n.val - 1)) ∧ (¬ (gzu n.val + gzv n.val) % 2 = 0 → gzv n.val = 7 → (gzu (n.val + 1) = gzu n.val + 1 ∧ gzv (n.val + 1) = gzv n.val)) ∧ (¬ (gzu n.val + gzv n.val) % 2 = 0 → ¬ gzv n.val = 7 → gzu n.val = 0 → (gzu (n.val + 1) = gzu n.val ∧ gzv (n.val + 1) = gzv n.val + 1)) ∧ (¬ (gzu n.val + gzv n.val) % 2 = 0 → ¬ gzv n.val = 7 → ¬ gzu n.val = 0 → (gzu (n.val + 1) = gzu n.val - 1 ∧ gzv (n.val + 1) = gzv n.val + 1)) := fun n => ⟨gzz0_0 n, gzz0_1 n, gzz0_2 n, gzz0_3 n, gzz0_4 n, gzz0_5 n, gzz0_6 n, gzz0_7 n, gzz0_8 n, gzz0_9 n⟩
theorem gzz {i u v : Int} (h0 : 0 ≤ i) (h1 : i < 64) (eu : u = gzu i.toNat) (ev : v = gzv i.toNat) : (0 ≤ u ∧ u ≤ 7 ∧ 0 ≤ v ∧ v ≤ 7) ∧ ((u + v) % 2 = 0 → u = 7 → (gzu (i + 1).toNat = u ∧ gzv (i + 1).toNat = v + 1)) ∧ ((u + v) % 2 = 0 → ¬ u = 7 → v = 0 → (gzu (i + 1).toNat = u + 1 ∧ gzv (i + 1).toNat = v)) ∧ ((u + v) % 2 = 0 → ¬ u = 7 → ¬ v = 0 → (gzu (i + 1).toNat = u + 1 ∧ gzv (i + 1).toNat = v - 1)) ∧ (¬ (u + v) % 2 = 0 → v = 7 → (gzu (i + 1).toNat = u + 1 ∧ gzv (i + 1).toNat = v)) ∧ (¬ (u + v) % 2 = 0 → ¬ v = 7 → u = 0 → (gzu (i + 1).toNat = u ∧ gzv (i + 1).toNat = v + 1)) ∧ (¬ (u + v) % 2 = 0 → ¬ v = 7 → ¬ u = 0 → (gzu (i + 1).toNat = u - 1 ∧ gzv (i + 1).toNat = v + 1)) := by
  have h := gzz0 ⟨i.toNat, by omega⟩
  have e : (i + 1).toNat = i.toNat + 1 := by omega
  rw [e, eu, ev]
  obtain ⟨a1, a2, a3, a4, b1, b2, b3, b4, b5, b6⟩ := h
  exact ⟨⟨a1, a2, a3, a4⟩, b1, b2, b3, b4, b5, b6⟩
theorem rTk_2 : rT 2 = some rg2 := rfl
theorem rTk_3 : rT 3 = some rg3 := rfl
theorem rTk_4 : rT 4 = some rg4 := rfl
theorem rTk_5 : rT 5 = some rg5 := rfl
theorem rTk_6 : rT 6 = some rg6 := rfl
theorem rTk_7 : rT 7 = some rg7 := rfl
theorem rTk_8 : rT 8 = some rg8 := rfl
theorem rTk_9 : rT 9 = some rg9 := rfl
theorem rTk_10 : rT 10 = some rg10 := rfl
theorem rTk_11 : rT 11 = some rg11 := rfl
theorem rTk_12 : rT 12 = some rg12 := rfl
theorem rTk_13 : rT 13 = some rg13 := rfl
theorem rTk_14 : rT 14 = some rg14 := rfl
theorem rTk_15 : rT 15 = some rg15 := rfl
theorem rTk_16 : rT 16 = some rg16 := rfl
theorem rTk_17 : rT 17 = some rg17 := rfl
theorem rTk_18 : rT 18 = some rg18 := rfl
theorem rTk_19 : rT 19 = some rg19 := rfl
theorem rTk_20 : rT 20 = some rg20 := rfl
theorem rTk_21 : rT 21 = some rg21 := rfl
theorem rTk_22 : rT 22 = some rg22 := rfl
theorem rTk_23 : rT 23 = some rg23 := rfl
theorem rTk_24 : rT 24 = some rg24 := rfl
theorem rTk_25 : rT 25 = some rg25 := rfl
theorem rTk_26 : rT 26 = some rg26 := rfl
theorem rTk_27 : rT 27 = some rg27 := rfl
theorem rTk_28 : rT 28 = some rg28 := rfl
theorem rTk_29 : rT 29 = some rg29 := rfl
theorem rTk_30 : rT 30 = some rg30 := rfl
theorem rTk_31 : rT 31 = some rg31 := rfl
theorem rTk_32 : rT 32 = some rg32 := rfl
theorem rTk_33 : rT 33 = some rg33 := rfl
theorem rTk_34 : rT 34 = some rg34 := rfl
theorem rTk_35 : rT 35 = some rg35 := rfl
theorem rTk_36 : rT 36 = some rg36 := rfl
theorem rTk_37 : rT 37 = some rg37 := rfl
theorem rTk_38 : rT 38 = some rg38 := rfl
theorem rTk_39 : rT 39 = some rg39 := rfl
theorem rTk_40 : rT 40 = some rg40 := rfl
theorem rTk_41 : rT 41 = some rg41 := rfl
theorem rTk_42 : rT 42 = some rg42 := rfl
set_option maxRecDepth 20000 in
set_option maxHeartbeats 4000000 in
theorem cmlp3315 (d : Nat) {ty : Nat → Nat} {h : gH} (hJ : gJ rT 1027 ty h) (x : Nat) (nx : 1027 ≤ x) (c3 c23 c46 c72 c101 c133 c171 c209 c250 c294 c341 c391 c447 c503 c562 c624 c689 c760 c831 c905 c982 c1065 c1148 c1234 c1323 c1418 c1513 c1611 c1715 c1819 c1926 c2039 c2152 c2268 c2390 c2512 c2637 c2768 c2899 c3033 c3173 : Nat) : ∀ (fu : Nat) (ty3318 : Nat → Nat) (h3317 : gH) (u : Int) (v : Int) (i : Int), (65 - i).toNat < fu → gSg [1, 2, 3, 4, 5, 6, 7, 8, 9, 10, 11, 12, 13, 14, 15, 16, 17, 18, 19, 20, 21, 22, 23, 24, 25, 26, 27, 28, 29, 30, 31, 32, 33, 34, 35, 36, 37, 38, 39, 40, 41, 42, 200] [x] [8999, 10999, 31999] ty h ty3318 h3317 → gUq ty3318 → ty3318 x = 200 → ty3318 c3 = 2 → ty3318 c23 = 3 → ty3318 c46 = 4 → ty3318 c72 = 5 → ty3318 c101 = 6 → ty3318 c133 = 7 → ty3318 c171 = 8 → ty3318 c209 = 9 → ty3318 c250 = 10 → ty3318 c294 = 11 → ty3318 c341 = 12 → ty3318 c391 = 13 → ty3318 c447 = 14 → ty3318 c503 = 15 → ty3318 c562 = 16 → ty3318 c624 = 17 → ty3318 c689 = 18 → ty3318 c760 = 19 → ty3318 c831 = 20 → ty3318 c905 = 21 → ty3318 c982 = 22 → ty3318 c1065 = 23 → ty3318 c1148 = 24 → ty3318 c1234 = 25 → ty3318 c1323 = 26 → ty3318 c1418 = 27 → ty3318 c1513 = 28 → ty3318 c1611 = 29 → ty3318 c1715 = 30 → ty3318 c1819 = 31 → ty3318 c1926 = 32 → ty3318 c2039 = 33 → ty3318 c2152 = 34 → ty3318 c2268 = 35 → ty3318 c2390 = 36 → ty3318 c2512 = 37 → ty3318 c2637 = 38 → ty3318 c2768 = 39 → ty3318 c2899 = 40 → ty3318 c3033 = 41 → ty3318 c3173 = 42 → (0 ≤ u ∧ u ≤ 8) → (0 ≤ v ∧ v ≤ 8) → (0 ≤ i ∧ i ≤ 64) → (u = gzu i.toNat) → (v = gzv i.toNat) → ((h3317.1 : Int) = h.1 + 41) → ((h3317.2.1 : Int) = h.2.1 + 88652) → h3317.2.2.2.2 x 2 = .ref c3 → h3317.2.2.2.2 x 4 = .ref c23 → h3317.2.2.2.2 x 9 = .ref c46 → h3317.2.2.2.2 x 10 = .ref c72 → h3317.2.2.2.2 x 11 = .ref c101 → h3317.2.2.2.2 x 12 = .ref c133 → h3317.2.2.2.2 x 13 = .ref c171 → h3317.2.2.2.2 x 14 = .ref c209 → h3317.2.2.2.2 x 15 = .ref c250 → h3317.2.2.2.2 x 25 = .ref c294 → h3317.2.2.2.2 x 26 = .ref c341 → h3317.2.2.2.2 x 27 = .ref c391 → h3317.2.2.2.2 x 28 = .ref c447 → h3317.2.2.2.2 x 29 = .ref c503 → h3317.2.2.2.2 x 30 = .ref c562 → h3317.2.2.2.2 x 31 = .ref c624 → h3317.2.2.2.2 x 32 = .ref c689 → h3317.2.2.2.2 x 33 = .ref c760 → h3317.2.2.2.2 x 34 = .ref c831 → h3317.2.2.2.2 x 35 = .ref c905 → h3317.2.2.2.2 x 36 = .ref c982 → h3317.2.2.2.2 x 37 = .ref c1065 → h3317.2.2.2.2 x 38 = .ref c1148 → h3317.2.2.2.2 x 40 = .ref c1234 → h3317.2.2.2.2 x 49 = .ref c1323 → h3317.2.2.2.2 x 54 = .ref c1418 → h3317.2.2.2.2 x 55 = .ref c1513 → h3317.2.2.2.2 x 56 = .ref c1611 → h3317.2.2.2.2 x 57 = .ref c1715 → h3317.2.2.2.2 x 58 = .ref c1819 → h3317.2.2.2.2 x 60 = .ref c1926 → h3317.2.2.2.2 x 63 = .ref c2039 → h3317.2.2.2.2 x 65 = .ref c2152 → h3317.2.2.2.2 x 66 = .ref c2268 → h3317.2.2.2.2 x 68 = .ref c2390 → h3317.2.2.2.2 x 69 = .ref c2512 → h3317.2.2.2.2 x 70 = .ref c2637 → h3317.2.2.2.2 x 71 = .ref c2768 → h3317.2.2.2.2 x 72 = .ref c2899 → h3317.2.2.2.2 x 73 = .ref c3033 → h3317.2.2.2.2 x 76 = .ref c3173 → gNo [1] ty3318 → gOy ty3318 31 (-1) i h3317 → x < h3317.1 → h3317.2.2.1 x = some (.inr 12) → h3317.2.2.2.1 x = 0 → (∀ k, ¬ k ∈ ([76, 73, 72, 71, 70, 69, 68, 66, 65, 63, 60, 58, 57, 56, 55, 54, 49, 40, 38, 37, 36, 35, 34, 33, 32, 31, 30, 29, 28, 27, 26, 25, 15, 14, 13, 12, 11, 10, 9, 4, 2] : List Nat) → h3317.2.2.2.2 x k = defaultValue (gGG.2.1 12 k)) → gz gPP gGG gcn (d + 1) gt130 365 [some (.ref x), some (.int (zi u)), some (.int (zi v)), some (.int (zi i)), none] [] h3317 (fun q _ => ∃ ty9 : Nat → Nat, gSg [1, 2, 3, 4, 5, 6, 7, 8, 9, 10, 11, 12, 13, 14, 15, 16, 17, 18, 19, 20, 21, 22, 23, 24, 25, 26, 27, 28, 29, 30, 31, 32, 33, 34, 35, 36, 37, 38, 39, 40, 41, 42, 200] [x] [8999, 10999, 31999] ty h ty9 q.2.2 ∧ ∃ ip n1 cw ch iv1 : Int, ty9 x = 1 ∧ gfin gt130 q.1 q.2.1 = some none ∧ q.2.2.2.2.2.2 x 16 = .int (zi ip) ∧ 0 ≤ ip ∧ ip ≤ 1 ∧ q.2.2.2.2.2.2 x 53 = .int (zi n1) ∧ 0 ≤ n1 ∧ n1 ≤ 10 ∧ q.2.2.2.2.2.2 x 50 = .int (zi cw) ∧ 0 ≤ cw ∧ cw ≤ 32 ∧ q.2.2.2.2.2.2 x 51 = .int (zi ch) ∧ 0 ≤ ch ∧ ch ≤ 32 ∧ q.2.2.2.2.2.2 x 52 = .int (zi iv1) ∧ 0 ≤ iv1 ∧ iv1 ≤ 100 ∧ (ip = 0) ∧ (n1 = 0) ∧ (cw = 0) ∧ (ch = 0) ∧ (iv1 = 0) ∧ ((q.2.2.1 : Int) = h.1 + 41) ∧ ((q.2.2.2.1 : Int) = h.2.1 + 88652) ∧ (gTs ty9 0 q.2.2) ∧ (gOy ty9 31 (-1) 64 q.2.2) ∧ gUq ty9) := by
  intro fu
  induction fu with
  | zero => intro ty3318 h3317 u v i hm; exact absurd hm (Nat.not_lt_zero _)
  | succ fu ihlp3315 =>
    intro ty3318 h3317 u v i lp3315m lp3315G lp3315u lp3315c0 lp3315c1 lp3315c2 lp3315c3 lp3315c4 lp3315c5 lp3315c6 lp3315c7 lp3315c8 lp3315c9 lp3315c10 lp3315c11 lp3315c12 lp3315c13 lp3315c14 lp3315c15 lp3315c16 lp3315c17 lp3315c18 lp3315c19 lp3315c20 lp3315c21 lp3315c22 lp3315c23 lp3315c24 lp3315c25 lp3315c26 lp3315c27 lp3315c28 lp3315c29 lp3315c30 lp3315c31 lp3315c32 lp3315c33 lp3315c34 lp3315c35 lp3315c36 lp3315c37 lp3315c38 lp3315c39 lp3315c40 lp3315c41 lp3315f0 lp3315f1 lp3315f2 lp3315f3 lp3315f4 lp3315f5 lp3315f6 lp3315k0 lp3315k1 lp3315k2 lp3315k3 lp3315k4 lp3315k5 lp3315k6 lp3315k7 lp3315k8 lp3315k9 lp3315k10 lp3315k11 lp3315k12 lp3315k13 lp3315k14 lp3315k15 lp3315k16 lp3315k17 lp3315k18 lp3315k19 lp3315k20 lp3315k21 lp3315k22 lp3315k23 lp3315k24 lp3315k25 lp3315k26 lp3315k27 lp3315k28 lp3315k29 lp3315k30 lp3315k31 lp3315k32 lp3315k33 lp3315k34 lp3315k35 lp3315k36 lp3315k37 lp3315k38 lp3315k39 lp3315k40 lp3315k41 lp3315k42 lp3315w0 lp3315w1 lp3315w2 lp3315w3
    have sh3317 : gSs rT 1027 ty3318 [8999, 10999, 31999] h3317 h3317 := gSs.rf lp3315G.1
    refine gz_s 2 (pc' := 368) (L' := [some (.ref x), some (.int (zi u)), some (.int (zi v)), some (.int (zi i)), none]) (S' := [.int (zi 64), .int (zi i)]) rfl ?_
    by_cases hc3319 : (64 : Int) ≤ i
    · refine gy_icT (pc' := 475) rfl (by decide) (by decide) (by omega) (by omega) hc3319 ?_
      have df3320 := (show h3317.2.2.2.2 x 0 = .int (zi 0) from lp3315w3 0 (by decide))
      have df3321 := (show h3317.2.2.2.2 x 1 = .int (zi 0) from lp3315w3 1 (by decide))
      have df3322 := (show h3317.2.2.2.2 x 3 = .int (zi 0) from lp3315w3 3 (by decide))
      have df3323 := (show h3317.2.2.2.2 x 5 = .int (zi 0) from lp3315w3 5 (by decide))
      have df3324 := (show h3317.2.2.2.2 x 6 = .int (zi 0) from lp3315w3 6 (by decide))
      have df3325 := (show h3317.2.2.2.2 x 7 = .int (zi 0) from lp3315w3 7 (by decide))
      have df3326 := (show h3317.2.2.2.2 x 8 = .int (zi 0) from lp3315w3 8 (by decide))
      have df3327 := (show h3317.2.2.2.2 x 16 = .int (zi 0) from lp3315w3 16 (by decide))
      have df3328 := (show h3317.2.2.2.2 x 17 = .int (zi 0) from lp3315w3 17 (by decide))
      have df3329 := (show h3317.2.2.2.2 x 18 = .int (zi 0) from lp3315w3 18 (by decide))
      have df3330 := (show h3317.2.2.2.2 x 19 = .int (zi 0) from lp3315w3 19 (by decide))
      have df3331 := (show h3317.2.2.2.2 x 20 = .int (zi 0) from lp3315w3 20 (by decide))
      have df3332 := (show h3317.2.2.2.2 x 21 = .int (zi 0) from lp3315w3 21 (by decide))
      have df3333 := (show h3317.2.2.2.2 x 22 = .int (zi 0) from lp3315w3 22 (by decide))
      have df3334 := (show h3317.2.2.2.2 x 23 = .int (zi 0) from lp3315w3 23 (by decide))
      have df3335 := (show h3317.2.2.2.2 x 24 = .int (zi 0) from lp3315w3 24 (by decide))
      have df3336 := (show h3317.2.2.2.2 x 39 = .int (zi 0) from lp3315w3 39 (by decide))
      have df3337 := (show h3317.2.2.2.2 x 41 = .int (zi 0) from lp3315w3 41 (by decide))
      have df3338 := (show h3317.2.2.2.2 x 42 = .int (zi 0) from lp3315w3 42 (by decide))
      have df3339 := (show h3317.2.2.2.2 x 43 = .int (zi 0) from lp3315w3 43 (by decide))
      have df3340 := (show h3317.2.2.2.2 x 44 = .int (zi 0) from lp3315w3 44 (by decide))
      have df3341 := (show h3317.2.2.2.2 x 45 = .int (zi 0) from lp3315w3 45 (by decide))
      have df3342 := (show h3317.2.2.2.2 x 46 = .int (zi 0) from lp3315w3 46 (by decide))
      have df3343 := (show h3317.2.2.2.2 x 47 = .int (zi 0) from lp3315w3 47 (by decide))
      have df3344 := (show h3317.2.2.2.2 x 48 = .int (zi 0) from lp3315w3 48 (by decide))
      have df3345 := (show h3317.2.2.2.2 x 50 = .int (zi 0) from lp3315w3 50 (by decide))
      have df3346 := (show h3317.2.2.2.2 x 51 = .int (zi 0) from lp3315w3 51 (by decide))
      have df3347 := (show h3317.2.2.2.2 x 52 = .int (zi 0) from lp3315w3 52 (by decide))
      have df3348 := (show h3317.2.2.2.2 x 53 = .int (zi 0) from lp3315w3 53 (by decide))
      have df3349 := (show h3317.2.2.2.2 x 59 = .int (zi 0) from lp3315w3 59 (by decide))
      have df3350 := (show h3317.2.2.2.2 x 61 = .int (zi 0) from lp3315w3 61 (by decide))
      have df3351 := (show h3317.2.2.2.2 x 62 = .int (zi 0) from lp3315w3 62 (by decide))
      have df3352 := (show h3317.2.2.2.2 x 64 = .int (zi 0) from lp3315w3 64 (by decide))
      have df3353 := (show h3317.2.2.2.2 x 67 = .int (zi 0) from lp3315w3 67 (by decide))
      have df3354 := (show h3317.2.2.2.2 x 74 = .int (zi 0) from lp3315w3 74 (by decide))
      have df3355 := (show h3317.2.2.2.2 x 75 = .int (zi 0) from lp3315w3 75 (by decide))
      obtain ⟨ty3357, g3356, tg3356, ug3356⟩ := gSg.adx 1 sh3317.1 lp3315c0 nx lp3315w0 rfl lp3315w1 (by show (0 : Nat) ≤ _; have h9 := lp3315w2; omega) (by show _ ≤ (0 : Nat); have h9 := lp3315w2; omega) (fun ty9 w9 k hk => ad1 (by rw [df3320]; exact ⟨0, rfl, by show (0 : Int) ≤ _; omega, by show _ ≤ (2 : Int); omega⟩) (by rw [df3321]; exact ⟨0, rfl, by show (0 : Int) ≤ _; omega, by show _ ≤ (2000 : Int); omega⟩) (by rw [lp3315k0]; exact ⟨c3, rfl, w9 c3 _ lp3315c1 (by decide)⟩) (by rw [df3322]; exact ⟨0, rfl, by show (0 : Int) ≤ _; omega, by show _ ≤ (2000 : Int); omega⟩) (by rw [lp3315k1]; exact ⟨c23, rfl, w9 c23 _ lp3315c2 (by decide)⟩) (by rw [df3323]; exact ⟨0, rfl, by show (0 : Int) ≤ _; omega, by show _ ≤ (4000 : Int); omega⟩) (by rw [df3324]; exact ⟨0, rfl, by show (0 : Int) ≤ _; omega, by show _ ≤ (2000 : Int); omega⟩) (by rw [df3325]; exact ⟨0, rfl, by show ((-1) : Int) ≤ _; omega, by show _ ≤ (4000 : Int); omega⟩) (by rw [df3326]; exact ⟨0, rfl, by show (0 : Int) ≤ _; omega, by show _ ≤ (65535 : Int); omega⟩) (by rw [lp3315k2]; exact ⟨c46, rfl, w9 c46 _ lp3315c3 (by decide)⟩) (by rw [lp3315k3]; exact ⟨c72, rfl, w9 c72 _ lp3315c4 (by decide)⟩) (by rw [lp3315k4]; exact ⟨c101, rfl, w9 c101 _ lp3315c5 (by decide)⟩) (by rw [lp3315k5]; exact ⟨c133, rfl, w9 c133 _ lp3315c6 (by decide)⟩) (by rw [lp3315k6]; exact ⟨c171, rfl, w9 c171 _ lp3315c7 (by decide)⟩) (by rw [lp3315k7]; exact ⟨c209, rfl, w9 c209 _ lp3315c8 (by decide)⟩) (by rw [lp3315k8]; exact ⟨c250, rfl, w9 c250 _ lp3315c9 (by decide)⟩) (by rw [df3327]; exact ⟨0, rfl, by show (0 : Int) ≤ _; omega, by show _ ≤ (1 : Int); omega⟩) (by rw [df3328]; exact ⟨0, rfl, by show (0 : Int) ≤ _; omega, by show _ ≤ (1 : Int); omega⟩) (by rw [df3329]; exact ⟨0, rfl, by show (0 : Int) ≤ _; omega, by show _ ≤ (64 : Int); omega⟩) (by rw [df3330]; exact ⟨0, rfl, by show (0 : Int) ≤ _; omega, by show _ ≤ (64 : Int); omega⟩) (by rw [df3331]; exact ⟨0, rfl, by show (0 : Int) ≤ _; omega, by show _ ≤ (3 : Int); omega⟩) (by rw [df3332]; exact ⟨0, rfl, by show (0 : Int) ≤ _; omega, by show _ ≤ (2 : Int); omega⟩) (by rw [df3333]; exact ⟨0, rfl, by show (0 : Int) ≤ _; omega, by show _ ≤ (2 : Int); omega⟩) (by rw [df3334]; exact ⟨0, rfl, by show (0 : Int) ≤ _; omega, by show _ ≤ (192 : Int); omega⟩) (by rw [df3335]; exact ⟨0, rfl, by show ((-2147483648) : Int) ≤ _; omega, by show _ ≤ (2147483647 : Int); omega⟩) (by rw [lp3315k9]; exact ⟨c294, rfl, w9 c294 _ lp3315c10 (by decide)⟩) (by rw [lp3315k10]; exact ⟨c341, rfl, w9 c341 _ lp3315c11 (by decide)⟩) (by rw [lp3315k11]; exact ⟨c391, rfl, w9 c391 _ lp3315c12 (by decide)⟩) (by rw [lp3315k12]; exact ⟨c447, rfl, w9 c447 _ lp3315c13 (by decide)⟩) (by rw [lp3315k13]; exact ⟨c503, rfl, w9 c503 _ lp3315c14 (by decide)⟩) (by rw [lp3315k14]; exact ⟨c562, rfl, w9 c562 _ lp3315c15 (by decide)⟩) (by rw [lp3315k15]; exact ⟨c624, rfl, w9 c624 _ lp3315c16 (by decide)⟩) (by rw [lp3315k16]; exact ⟨c689, rfl, w9 c689 _ lp3315c17 (by decide)⟩) (by rw [lp3315k17]; exact ⟨c760, rfl, w9 c760 _ lp3315c18 (by decide)⟩) (by rw [lp3315k18]; exact ⟨c831, rfl, w9 c831 _ lp3315c19 (by decide)⟩) (by rw [lp3315k19]; exact ⟨c905, rfl, w9 c905 _ lp3315c20 (by decide)⟩) (by rw [lp3315k20]; exact ⟨c982, rfl, w9 c982 _ lp3315c21 (by decide)⟩) (by rw [lp3315k21]; exact ⟨c1065, rfl, w9 c1065 _ lp3315c22 (by decide)⟩) (by rw [lp3315k22]; exact ⟨c1148, rfl, w9 c1148 _ lp3315c23 (by decide)⟩) (by rw [df3336]; exact ⟨0, rfl, by show (0 : Int) ≤ _; omega, by show _ ≤ (3 : Int); omega⟩) (by rw [lp3315k23]; exact ⟨c1234, rfl, w9 c1234 _ lp3315c24 (by decide)⟩) (by rw [df3337]; exact ⟨0, rfl, by show (0 : Int) ≤ _; omega, by show _ ≤ (255 : Int); omega⟩) (by rw [df3338]; exact ⟨0, rfl, by show (0 : Int) ≤ _; omega, by show _ ≤ (255 : Int); omega⟩) (by rw [df3339]; exact ⟨0, rfl, by show (0 : Int) ≤ _; omega, by show _ ≤ (15 : Int); omega⟩) (by rw [df3340]; exact ⟨0, rfl, by show (0 : Int) ≤ _; omega, by show _ ≤ (15 : Int); omega⟩) (by rw [df3341]; exact ⟨0, rfl, by show ((-2147483648) : Int) ≤ _; omega, by show _ ≤ (2147483647 : Int); omega⟩) (by rw [df3342]; exact ⟨0, rfl, by show (0 : Int) ≤ _; omega, by show _ ≤ (1 : Int); omega⟩) (by rw [df3343]; exact ⟨0, rfl, by show (0 : Int) ≤ _; omega, by show _ ≤ (4000 : Int); omega⟩) (by rw [df3344]; exact ⟨0, rfl, by show (0 : Int) ≤ _; omega, by show _ ≤ (8 : Int); omega⟩) (by rw [lp3315k24]; exact ⟨c1323, rfl, w9 c1323 _ lp3315c25 (by decide)⟩) (by rw [df3345]; exact ⟨0, rfl, by show (0 : Int) ≤ _; omega, by show _ ≤ (32 : Int); omega⟩) (by rw [df3346]; exact ⟨0, rfl, by show (0 : Int) ≤ _; omega, by show _ ≤ (32 : Int); omega⟩) (by rw [df3347]; exact ⟨0, rfl, by show (0 : Int) ≤ _; omega, by show _ ≤ (100 : Int); omega⟩) (by rw [df3348]; exact ⟨0, rfl, by show (0 : Int) ≤ _; omega, by show _ ≤ (10 : Int); omega⟩) (by rw [lp3315k25]; exact ⟨c1418, rfl, w9 c1418 _ lp3315c26 (by decide)⟩) (by rw [lp3315k26]; exact ⟨c1513, rfl, w9 c1513 _ lp3315c27 (by decide)⟩) (by rw [lp3315k27]; exact ⟨c1611, rfl, w9 c1611 _ lp3315c28 (by decide)⟩) (by rw [lp3315k28]; exact ⟨c1715, rfl, w9 c1715 _ lp3315c29 (by decide)⟩) (by rw [lp3315k29]; exact ⟨c1819, rfl, w9 c1819 _ lp3315c30 (by decide)⟩) (by rw [df3349]; exact ⟨0, rfl, by show (0 : Int) ≤ _; omega, by show _ ≤ (60000 : Int); omega⟩) (by rw [lp3315k30]; exact ⟨c1926, rfl, w9 c1926 _ lp3315c31 (by decide)⟩) (by rw [df3350]; exact ⟨0, rfl, by show ((-2147483648) : Int) ≤ _; omega, by show _ ≤ (2147483647 : Int); omega⟩) (by rw [df3351]; exact ⟨0, rfl, by show (0 : Int) ≤ _; omega, by show _ ≤ (8 : Int); omega⟩) (by rw [lp3315k31]; exact ⟨c2039, rfl, w9 c2039 _ lp3315c32 (by decide)⟩) (by rw [df3352]; exact ⟨0, rfl, by show (0 : Int) ≤ _; omega, by show _ ≤ (16 : Int); omega⟩) (by rw [lp3315k32]; exact ⟨c2152, rfl, w9 c2152 _ lp3315c33 (by decide)⟩) (by rw [lp3315k33]; exact ⟨c2268, rfl, w9 c2268 _ lp3315c34 (by decide)⟩) (by rw [df3353]; exact ⟨0, rfl, by show (0 : Int) ≤ _; omega, by show _ ≤ (1 : Int); omega⟩) (by rw [lp3315k34]; exact ⟨c2390, rfl, w9 c2390 _ lp3315c35 (by decide)⟩) (by rw [lp3315k35]; exact ⟨c2512, rfl, w9 c2512 _ lp3315c36 (by decide)⟩) (by rw [lp3315k36]; exact ⟨c2637, rfl, w9 c2637 _ lp3315c37 (by decide)⟩) (by rw [lp3315k37]; exact ⟨c2768, rfl, w9 c2768 _ lp3315c38 (by decide)⟩) (by rw [lp3315k38]; exact ⟨c2899, rfl, w9 c2899 _ lp3315c39 (by decide)⟩) (by rw [lp3315k39]; exact ⟨c3033, rfl, w9 c3033 _ lp3315c40 (by decide)⟩) (by rw [df3354]; exact ⟨0, rfl, by show ((-2048) : Int) ≤ _; omega, by show _ ≤ (2048 : Int); omega⟩) (by rw [df3355]; exact ⟨0, rfl, by show (0 : Int) ≤ _; omega, by show _ ≤ (64 : Int); omega⟩) (by rw [lp3315k40]; exact ⟨c3173, rfl, w9 c3173 _ lp3315c41 (by decide)⟩) k)
      have uq3358 := ug3356 lp3315u (Or.inr lp3315k41)
      have G3359 : gSg [1, 2, 3, 4, 5, 6, 7, 8, 9, 10, 11, 12, 13, 14, 15, 16, 17, 18, 19, 20, 21, 22, 23, 24, 25, 26, 27, 28, 29, 30, 31, 32, 33, 34, 35, 36, 37, 38, 39, 40, 41, 42, 200] [x] [8999, 10999, 31999] ty h ty3357 h3317 := gSg.tr (gSg.ss lp3315G sh3317 (by decide)) g3356 (by decide) (by decide) (fun x hx => Or.inr hx)
      have t3360 : ty3357 c3 = 2 := gSg.typ g3356 sh3317.1 lp3315c1 rTk_2
      have t3361 : ty3357 c23 = 3 := gSg.typ g3356 sh3317.1 lp3315c2 rTk_3
      have t3362 : ty3357 c46 = 4 := gSg.typ g3356 sh3317.1 lp3315c3 rTk_4
      have t3363 : ty3357 c72 = 5 := gSg.typ g3356 sh3317.1 lp3315c4 rTk_5
      have t3364 : ty3357 c101 = 6 := gSg.typ g3356 sh3317.1 lp3315c5 rTk_6
      have t3365 : ty3357 c133 = 7 := gSg.typ g3356 sh3317.1 lp3315c6 rTk_7
      have t3366 : ty3357 c171 = 8 := gSg.typ g3356 sh3317.1 lp3315c7 rTk_8
      have t3367 : ty3357 c209 = 9 := gSg.typ g3356 sh3317.1 lp3315c8 rTk_9
      have t3368 : ty3357 c250 = 10 := gSg.typ g3356 sh3317.1 lp3315c9 rTk_10
      have t3369 : ty3357 c294 = 11 := gSg.typ g3356 sh3317.1 lp3315c10 rTk_11
      have t3370 : ty3357 c341 = 12 := gSg.typ g3356 sh3317.1 lp3315c11 rTk_12
      have t3371 : ty3357 c391 = 13 := gSg.typ g3356 sh3317.1 lp3315c12 rTk_13
      have t3372 : ty3357 c447 = 14 := gSg.typ g3356 sh3317.1 lp3315c13 rTk_14
      have t3373 : ty3357 c503 = 15 := gSg.typ g3356 sh3317.1 lp3315c14 rTk_15
      have t3374 : ty3357 c562 = 16 := gSg.typ g3356 sh3317.1 lp3315c15 rTk_16
      have t3375 : ty3357 c624 = 17 := gSg.typ g3356 sh3317.1 lp3315c16 rTk_17
      have t3376 : ty3357 c689 = 18 := gSg.typ g3356 sh3317.1 lp3315c17 rTk_18
      have t3377 : ty3357 c760 = 19 := gSg.typ g3356 sh3317.1 lp3315c18 rTk_19
      have t3378 : ty3357 c831 = 20 := gSg.typ g3356 sh3317.1 lp3315c19 rTk_20
      have t3379 : ty3357 c905 = 21 := gSg.typ g3356 sh3317.1 lp3315c20 rTk_21
      have t3380 : ty3357 c982 = 22 := gSg.typ g3356 sh3317.1 lp3315c21 rTk_22
      have t3381 : ty3357 c1065 = 23 := gSg.typ g3356 sh3317.1 lp3315c22 rTk_23
      have t3382 : ty3357 c1148 = 24 := gSg.typ g3356 sh3317.1 lp3315c23 rTk_24
      have t3383 : ty3357 c1234 = 25 := gSg.typ g3356 sh3317.1 lp3315c24 rTk_25
      have t3384 : ty3357 c1323 = 26 := gSg.typ g3356 sh3317.1 lp3315c25 rTk_26
      have t3385 : ty3357 c1418 = 27 := gSg.typ g3356 sh3317.1 lp3315c26 rTk_27
      have t3386 : ty3357 c1513 = 28 := gSg.typ g3356 sh3317.1 lp3315c27 rTk_28
      have t3387 : ty3357 c1611 = 29 := gSg.typ g3356 sh3317.1 lp3315c28 rTk_29
      have t3388 : ty3357 c1715 = 30 := gSg.typ g3356 sh3317.1 lp3315c29 rTk_30
      have t3389 : ty3357 c1819 = 31 := gSg.typ g3356 sh3317.1 lp3315c30 rTk_31
      have t3390 : ty3357 c1926 = 32 := gSg.typ g3356 sh3317.1 lp3315c31 rTk_32
      have t3391 : ty3357 c2039 = 33 := gSg.typ g3356 sh3317.1 lp3315c32 rTk_33
      have t3392 : ty3357 c2152 = 34 := gSg.typ g3356 sh3317.1 lp3315c33 rTk_34
      have t3393 : ty3357 c2268 = 35 := gSg.typ g3356 sh3317.1 lp3315c34 rTk_35
      have t3394 : ty3357 c2390 = 36 := gSg.typ g3356 sh3317.1 lp3315c35 rTk_36
      have t3395 : ty3357 c2512 = 37 := gSg.typ g3356 sh3317.1 lp3315c36 rTk_37
      have t3396 : ty3357 c2637 = 38 := gSg.typ g3356 sh3317.1 lp3315c37 rTk_38
      have t3397 : ty3357 c2768 = 39 := gSg.typ g3356 sh3317.1 lp3315c38 rTk_39
      have t3398 : ty3357 c2899 = 40 := gSg.typ g3356 sh3317.1 lp3315c39 rTk_40
      have t3399 : ty3357 c3033 = 41 := gSg.typ g3356 sh3317.1 lp3315c40 rTk_41
      have t3400 : ty3357 c3173 = 42 := gSg.typ g3356 sh3317.1 lp3315c41 rTk_42
      have pr3401 := gOy.gr g3356 sh3317.1 rfl (by decide) (by decide) lp3315k42
      have sS3402 : gSs rT 1027 ty3357 [8999, 10999, 31999] h3317 h3317 := gSs.rf g3356.1
      have hts3403 : gTs ty3357 0 h3317 := gTs.anew (gRow.mk uq3358 t3385 (by decide) (fun _ => rfl)) (gRow.mk uq3358 t3386 (by decide) (fun _ => rfl)) (by have e9 := pr3401; rw [(by omega : i = 64)] at e9; exact e9)
      have hoy3404 : gOy ty3357 31 (-1) 64 h3317 := by
        have e9 := pr3401
        rw [(by omega : i = 64)] at e9
        exact e9
      have G3405 : gSg [1, 2, 3, 4, 5, 6, 7, 8, 9, 10, 11, 12, 13, 14, 15, 16, 17, 18, 19, 20, 21, 22, 23, 24, 25, 26, 27, 28, 29, 30, 31, 32, 33, 34, 35, 36, 37, 38, 39, 40, 41, 42, 200] [x] [8999, 10999, 31999] ty h ty3357 h3317 := gSg.ss G3359 sS3402 (by decide)
      exact gz_end (I := .return_) (len := 1) rfl (Or.inl rfl) ⟨ty3357, G3405, 0, 0, 0, 0, 0, tg3356, rfl, df3327, (by omega), (by omega), df3348, (by omega), (by omega), df3345, (by omega), (by omega), df3346, (by omega), (by omega), df3347, (by omega), (by omega), (by omega), (by omega), (by omega), (by omega), (by omega), (by dsimp only; omega), (by dsimp only; omega), hts3403, hoy3404, uq3358⟩
    · refine gy_icF rfl (by decide) (by decide) (by omega) (by omega) hc3319 ?_
      have hzz := gzz (i := i) (u := u) (v := v) (by omega) (by omega) (by omega) (by omega)
      refine gz_s 1 (pc' := 372) (L' := [some (.ref x), some (.int (zi u)), some (.int (zi v)), some (.int (zi i)), none]) (S' := [.ref x]) rfl ?_
      refine gz_get rfl (by decide) rfl nx lp3315w0 lp3315w1 lp3315k8 ?_
      refine gy_s 6 (pc' := 382) (L' := [some (.ref x), some (.int (zi u)), some (.int (zi v)), some (.int (zi i)), none]) (S' := [.int (((zi 8) * (zi v)) + (zi u)), .int (zi i), .ref c250]) (L2 := [some (.ref x), some (.int (zi u)), some (.int (zi v)), some (.int (zi i)), none]) (S2 := [.int (zi ((8 * v) + u)), .int (zi i), .ref c250]) rfl (by simp only [zi_add, zi_sub, zi_mul, zi_neg, zi_and1, zi_and7, zi_and15, zi_and31, zi_and255]) (by simp only [zi_add, zi_sub, zi_mul, zi_neg, zi_and1, zi_and7, zi_and15, zi_and31, zi_and255]) ?_
      have hl3406 : 64 ≤ h3317.2.2.2.1 c250 ∧ h3317.2.2.2.1 c250 ≤ 64 := gJ.rowl (G := gGG) sh3317.1 lp3315c9 rfl
      refine gs_ast rfl (by decide) sh3317 lp3315c9 rfl rfl rfl (by decide) (fun _ => rfl) (by omega) (by omega) (fun _ => (by decide : (10999 : Nat) ∈ ([8999, 10999, 31999] : List Nat))) (by omega) (by omega) (fun h3407 sh3407 eh3407 fh3407 => ?_)
      have pr3408 := gOy.pt fh3407 lp3315c9 (by decide) lp3315k42
      have s3409 := (fh3407 x 2 (fun q => absurd (((lp3315c0).symm.trans (congrArg ty3318 q.1)).trans lp3315c9) (by decide))).trans lp3315k0
      have s3410 := (fh3407 x 4 (fun q => absurd (((lp3315c0).symm.trans (congrArg ty3318 q.1)).trans lp3315c9) (by decide))).trans lp3315k1
      have s3411 := (fh3407 x 9 (fun q => absurd (((lp3315c0).symm.trans (congrArg ty3318 q.1)).trans lp3315c9) (by decide))).trans lp3315k2
      have s3412 := (fh3407 x 10 (fun q => absurd (((lp3315c0).symm.trans (congrArg ty3318 q.1)).trans lp3315c9) (by decide))).trans lp3315k3
      have s3413 := (fh3407 x 11 (fun q => absurd (((lp3315c0).symm.trans (congrArg ty3318 q.1)).trans lp3315c9) (by decide))).trans lp3315k4
      have s3414 := (fh3407 x 12 (fun q => absurd (((lp3315c0).symm.trans (congrArg ty3318 q.1)).trans lp3315c9) (by decide))).trans lp3315k5
      have s3415 := (fh3407 x 13 (fun q => absurd (((lp3315c0).symm.trans (congrArg ty3318 q.1)).trans lp3315c9) (by decide))).trans lp3315k6
      have s3416 := (fh3407 x 14 (fun q => absurd (((lp3315c0).symm.trans (congrArg ty3318 q.1)).trans lp3315c9) (by decide))).trans lp3315k7
      have s3417 := (fh3407 x 15 (fun q => absurd (((lp3315c0).symm.trans (congrArg ty3318 q.1)).trans lp3315c9) (by decide))).trans lp3315k8
      have s3418 := (fh3407 x 25 (fun q => absurd (((lp3315c0).symm.trans (congrArg ty3318 q.1)).trans lp3315c9) (by decide))).trans lp3315k9
      have s3419 := (fh3407 x 26 (fun q => absurd (((lp3315c0).symm.trans (congrArg ty3318 q.1)).trans lp3315c9) (by decide))).trans lp3315k10
      have s3420 := (fh3407 x 27 (fun q => absurd (((lp3315c0).symm.trans (congrArg ty3318 q.1)).trans lp3315c9) (by decide))).trans lp3315k11
      have s3421 := (fh3407 x 28 (fun q => absurd (((lp3315c0).symm.trans (congrArg ty3318 q.1)).trans lp3315c9) (by decide))).trans lp3315k12
      have s3422 := (fh3407 x 29 (fun q => absurd (((lp3315c0).symm.trans (congrArg ty3318 q.1)).trans lp3315c9) (by decide))).trans lp3315k13
      have s3423 := (fh3407 x 30 (fun q => absurd (((lp3315c0).symm.trans (congrArg ty3318 q.1)).trans lp3315c9) (by decide))).trans lp3315k14
      have s3424 := (fh3407 x 31 (fun q => absurd (((lp3315c0).symm.trans (congrArg ty3318 q.1)).trans lp3315c9) (by decide))).trans lp3315k15
      have s3425 := (fh3407 x 32 (fun q => absurd (((lp3315c0).symm.trans (congrArg ty3318 q.1)).trans lp3315c9) (by decide))).trans lp3315k16
      have s3426 := (fh3407 x 33 (fun q => absurd (((lp3315c0).symm.trans (congrArg ty3318 q.1)).trans lp3315c9) (by decide))).trans lp3315k17
      have s3427 := (fh3407 x 34 (fun q => absurd (((lp3315c0).symm.trans (congrArg ty3318 q.1)).trans lp3315c9) (by decide))).trans lp3315k18
      have s3428 := (fh3407 x 35 (fun q => absurd (((lp3315c0).symm.trans (congrArg ty3318 q.1)).trans lp3315c9) (by decide))).trans lp3315k19
      have s3429 := (fh3407 x 36 (fun q => absurd (((lp3315c0).symm.trans (congrArg ty3318 q.1)).trans lp3315c9) (by decide))).trans lp3315k20
      have s3430 := (fh3407 x 37 (fun q => absurd (((lp3315c0).symm.trans (congrArg ty3318 q.1)).trans lp3315c9) (by decide))).trans lp3315k21
      have s3431 := (fh3407 x 38 (fun q => absurd (((lp3315c0).symm.trans (congrArg ty3318 q.1)).trans lp3315c9) (by decide))).trans lp3315k22
      have s3432 := (fh3407 x 40 (fun q => absurd (((lp3315c0).symm.trans (congrArg ty3318 q.1)).trans lp3315c9) (by decide))).trans lp3315k23
      have s3433 := (fh3407 x 49 (fun q => absurd (((lp3315c0).symm.trans (congrArg ty3318 q.1)).trans lp3315c9) (by decide))).trans lp3315k24
      have s3434 := (fh3407 x 54 (fun q => absurd (((lp3315c0).symm.trans (congrArg ty3318 q.1)).trans lp3315c9) (by decide))).trans lp3315k25
      have s3435 := (fh3407 x 55 (fun q => absurd (((lp3315c0).symm.trans (congrArg ty3318 q.1)).trans lp3315c9) (by decide))).trans lp3315k26
      have s3436 := (fh3407 x 56 (fun q => absurd (((lp3315c0).symm.trans (congrArg ty3318 q.1)).trans lp3315c9) (by decide))).trans lp3315k27
      have s3437 := (fh3407 x 57 (fun q => absurd (((lp3315c0).symm.trans (congrArg ty3318 q.1)).trans lp3315c9) (by decide))).trans lp3315k28
      have s3438 := (fh3407 x 58 (fun q => absurd (((lp3315c0).symm.trans (congrArg ty3318 q.1)).trans lp3315c9) (by decide))).trans lp3315k29
      have s3439 := (fh3407 x 60 (fun q => absurd (((lp3315c0).symm.trans (congrArg ty3318 q.1)).trans lp3315c9) (by decide))).trans lp3315k30
      have s3440 := (fh3407 x 63 (fun q => absurd (((lp3315c0).symm.trans (congrArg ty3318 q.1)).trans lp3315c9) (by decide))).trans lp3315k31
      have s3441 := (fh3407 x 65 (fun q => absurd (((lp3315c0).symm.trans (congrArg ty3318 q.1)).trans lp3315c9) (by decide))).trans lp3315k32
      have s3442 := (fh3407 x 66 (fun q => absurd (((lp3315c0).symm.trans (congrArg ty3318 q.1)).trans lp3315c9) (by decide))).trans lp3315k33
      have s3443 := (fh3407 x 68 (fun q => absurd (((lp3315c0).symm.trans (congrArg ty3318 q.1)).trans lp3315c9) (by decide))).trans lp3315k34
      have s3444 := (fh3407 x 69 (fun q => absurd (((lp3315c0).symm.trans (congrArg ty3318 q.1)).trans lp3315c9) (by decide))).trans lp3315k35
      have s3445 := (fh3407 x 70 (fun q => absurd (((lp3315c0).symm.trans (congrArg ty3318 q.1)).trans lp3315c9) (by decide))).trans lp3315k36
      have s3446 := (fh3407 x 71 (fun q => absurd (((lp3315c0).symm.trans (congrArg ty3318 q.1)).trans lp3315c9) (by decide))).trans lp3315k37
      have s3447 := (fh3407 x 72 (fun q => absurd (((lp3315c0).symm.trans (congrArg ty3318 q.1)).trans lp3315c9) (by decide))).trans lp3315k38
      have s3448 := (fh3407 x 73 (fun q => absurd (((lp3315c0).symm.trans (congrArg ty3318 q.1)).trans lp3315c9) (by decide))).trans lp3315k39
      have s3449 := (fh3407 x 76 (fun q => absurd (((lp3315c0).symm.trans (congrArg ty3318 q.1)).trans lp3315c9) (by decide))).trans lp3315k40
      have dd3450 : ∀ k, ¬ k ∈ ([76, 73, 72, 71, 70, 69, 68, 66, 65, 63, 60, 58, 57, 56, 55, 54, 49, 40, 38, 37, 36, 35, 34, 33, 32, 31, 30, 29, 28, 27, 26, 25, 15, 14, 13, 12, 11, 10, 9, 4, 2] : List Nat) → h3407.2.2.2.2 x k = defaultValue (gGG.2.1 12 k) := fun k hk => (fh3407 x k (fun q => absurd (((lp3315c0).symm.trans (congrArg ty3318 q.1)).trans lp3315c9) (by decide))).trans (lp3315w3 k hk)
      have pr3451 := gEl.set (i := i) (z := (8 * v) + u) lp3315u lp3315c9 (by decide) eh3407 (by omega) (by omega)
      refine gz_s 1 (pc' := 384) (L' := [some (.ref x), some (.int (zi u)), some (.int (zi v)), some (.int (zi i)), none]) (S' := [.ref x]) rfl ?_
      refine gz_get rfl (by decide) rfl nx (Nat.lt_of_lt_of_eq lp3315w0 sh3407.2.1.symm) ((congrFun sh3407.2.2.2.1 x).trans lp3315w1) s3438 ?_
      refine gz_s 2 (pc' := 389) (L' := [some (.ref x), some (.int (zi u)), some (.int (zi v)), some (.int (zi i)), none]) (S' := [.int (zi (-1)), .int (zi i), .ref c1819]) rfl ?_
      obtain ⟨f9, rf9, of9⟩ := pr3408
      have hl3452 : 64 ≤ h3407.2.2.2.1 c1819 ∧ h3407.2.2.2.1 c1819 ≤ 64 := gJ.rowl (G := gGG) sh3407.1 lp3315c30 rfl
      refine gs_ast rfl (by decide) sh3407 lp3315c30 rfl rfl rfl (by decide) (fun _ => rfl) (by omega) (by omega) (fun _ => (by decide : (31999 : Nat) ∈ ([8999, 10999, 31999] : List Nat))) (by omega) (by omega) (fun h3453 sh3453 eh3453 fh3453 => ?_)
      have pr3454 := gEl.pt fh3453 lp3315c30 (by decide) pr3451
      have pr3455 := gRow.put (i := i) (z := (-1)) lp3315u lp3315c30 (by decide) fh3453 eh3453 (by omega) (by omega) rf9
      have s3456 := (fh3453 x 2 (fun q => absurd (((lp3315c0).symm.trans (congrArg ty3318 q.1)).trans lp3315c30) (by decide))).trans s3409
      have s3457 := (fh3453 x 4 (fun q => absurd (((lp3315c0).symm.trans (congrArg ty3318 q.1)).trans lp3315c30) (by decide))).trans s3410
      have s3458 := (fh3453 x 9 (fun q => absurd (((lp3315c0).symm.trans (congrArg ty3318 q.1)).trans lp3315c30) (by decide))).trans s3411
      have s3459 := (fh3453 x 10 (fun q => absurd (((lp3315c0).symm.trans (congrArg ty3318 q.1)).trans lp3315c30) (by decide))).trans s3412
      have s3460 := (fh3453 x 11 (fun q => absurd (((lp3315c0).symm.trans (congrArg ty3318 q.1)).trans lp3315c30) (by decide))).trans s3413
      have s3461 := (fh3453 x 12 (fun q => absurd (((lp3315c0).symm.trans (congrArg ty3318 q.1)).trans lp3315c30) (by decide))).trans s3414
      have s3462 := (fh3453 x 13 (fun q => absurd (((lp3315c0).symm.trans (congrArg ty3318 q.1)).trans lp3315c30) (by decide))).trans s3415
      have s3463 := (fh3453 x 14 (fun q => absurd (((lp3315c0).symm.trans (congrArg ty3318 q.1)).trans lp3315c30) (by decide))).trans s3416
      have s3464 := (fh3453 x 15 (fun q => absurd (((lp3315c0).symm.trans (congrArg ty3318 q.1)).trans lp3315c30) (by decide))).trans s3417
      have s3465 := (fh3453 x 25 (fun q => absurd (((lp3315c0).symm.trans (congrArg ty3318 q.1)).trans lp3315c30) (by decide))).trans s3418
      have s3466 := (fh3453 x 26 (fun q => absurd (((lp3315c0).symm.trans (congrArg ty3318 q.1)).trans lp3315c30) (by decide))).trans s3419
      have s3467 := (fh3453 x 27 (fun q => absurd (((lp3315c0).symm.trans (congrArg ty3318 q.1)).trans lp3315c30) (by decide))).trans s3420
      have s3468 := (fh3453 x 28 (fun q => absurd (((lp3315c0).symm.trans (congrArg ty3318 q.1)).trans lp3315c30) (by decide))).trans s3421
      have s3469 := (fh3453 x 29 (fun q => absurd (((lp3315c0).symm.trans (congrArg ty3318 q.1)).trans lp3315c30) (by decide))).trans s3422
      have s3470 := (fh3453 x 30 (fun q => absurd (((lp3315c0).symm.trans (congrArg ty3318 q.1)).trans lp3315c30) (by decide))).trans s3423
      have s3471 := (fh3453 x 31 (fun q => absurd (((lp3315c0).symm.trans (congrArg ty3318 q.1)).trans lp3315c30) (by decide))).trans s3424
      have s3472 := (fh3453 x 32 (fun q => absurd (((lp3315c0).symm.trans (congrArg ty3318 q.1)).trans lp3315c30) (by decide))).trans s3425
      have s3473 := (fh3453 x 33 (fun q => absurd (((lp3315c0).symm.trans (congrArg ty3318 q.1)).trans lp3315c30) (by decide))).trans s3426
      have s3474 := (fh3453 x 34 (fun q => absurd (((lp3315c0).symm.trans (congrArg ty3318 q.1)).trans lp3315c30) (by decide))).trans s3427
      have s3475 := (fh3453 x 35 (fun q => absurd (((lp3315c0).symm.trans (congrArg ty3318 q.1)).trans lp3315c30) (by decide))).trans s3428
      have s3476 := (fh3453 x 36 (fun q => absurd (((lp3315c0).symm.trans (congrArg ty3318 q.1)).trans lp3315c30) (by decide))).trans s3429
      have s3477 := (fh3453 x 37 (fun q => absurd (((lp3315c0).symm.trans (congrArg ty3318 q.1)).trans lp3315c30) (by decide))).trans s3430
      have s3478 := (fh3453 x 38 (fun q => absurd (((lp3315c0).symm.trans (congrArg ty3318 q.1)).trans lp3315c30) (by decide))).trans s3431
      have s3479 := (fh3453 x 40 (fun q => absurd (((lp3315c0).symm.trans (congrArg ty3318 q.1)).trans lp3315c30) (by decide))).trans s3432
      have s3480 := (fh3453 x 49 (fun q => absurd (((lp3315c0).symm.trans (congrArg ty3318 q.1)).trans lp3315c30) (by decide))).trans s3433
      have s3481 := (fh3453 x 54 (fun q => absurd (((lp3315c0).symm.trans (congrArg ty3318 q.1)).trans lp3315c30) (by decide))).trans s3434
      have s3482 := (fh3453 x 55 (fun q => absurd (((lp3315c0).symm.trans (congrArg ty3318 q.1)).trans lp3315c30) (by decide))).trans s3435
      have s3483 := (fh3453 x 56 (fun q => absurd (((lp3315c0).symm.trans (congrArg ty3318 q.1)).trans lp3315c30) (by decide))).trans s3436
      have s3484 := (fh3453 x 57 (fun q => absurd (((lp3315c0).symm.trans (congrArg ty3318 q.1)).trans lp3315c30) (by decide))).trans s3437
      have s3485 := (fh3453 x 58 (fun q => absurd (((lp3315c0).symm.trans (congrArg ty3318 q.1)).trans lp3315c30) (by decide))).trans s3438
      have s3486 := (fh3453 x 60 (fun q => absurd (((lp3315c0).symm.trans (congrArg ty3318 q.1)).trans lp3315c30) (by decide))).trans s3439
      have s3487 := (fh3453 x 63 (fun q => absurd (((lp3315c0).symm.trans (congrArg ty3318 q.1)).trans lp3315c30) (by decide))).trans s3440
      have s3488 := (fh3453 x 65 (fun q => absurd (((lp3315c0).symm.trans (congrArg ty3318 q.1)).trans lp3315c30) (by decide))).trans s3441
      have s3489 := (fh3453 x 66 (fun q => absurd (((lp3315c0).symm.trans (congrArg ty3318 q.1)).trans lp3315c30) (by decide))).trans s3442
      have s3490 := (fh3453 x 68 (fun q => absurd (((lp3315c0).symm.trans (congrArg ty3318 q.1)).trans lp3315c30) (by decide))).trans s3443
      have s3491 := (fh3453 x 69 (fun q => absurd (((lp3315c0).symm.trans (congrArg ty3318 q.1)).trans lp3315c30) (by decide))).trans s3444
      have s3492 := (fh3453 x 70 (fun q => absurd (((lp3315c0).symm.trans (congrArg ty3318 q.1)).trans lp3315c30) (by decide))).trans s3445
      have s3493 := (fh3453 x 71 (fun q => absurd (((lp3315c0).symm.trans (congrArg ty3318 q.1)).trans lp3315c30) (by decide))).trans s3446
      have s3494 := (fh3453 x 72 (fun q => absurd (((lp3315c0).symm.trans (congrArg ty3318 q.1)).trans lp3315c30) (by decide))).trans s3447
      have s3495 := (fh3453 x 73 (fun q => absurd (((lp3315c0).symm.trans (congrArg ty3318 q.1)).trans lp3315c30) (by decide))).trans s3448
      have s3496 := (fh3453 x 76 (fun q => absurd (((lp3315c0).symm.trans (congrArg ty3318 q.1)).trans lp3315c30) (by decide))).trans s3449
      have dd3497 : ∀ k, ¬ k ∈ ([76, 73, 72, 71, 70, 69, 68, 66, 65, 63, 60, 58, 57, 56, 55, 54, 49, 40, 38, 37, 36, 35, 34, 33, 32, 31, 30, 29, 28, 27, 26, 25, 15, 14, 13, 12, 11, 10, 9, 4, 2] : List Nat) → h3453.2.2.2.2 x k = defaultValue (gGG.2.1 12 k) := fun k hk => (fh3453 x k (fun q => absurd (((lp3315c0).symm.trans (congrArg ty3318 q.1)).trans lp3315c30) (by decide))).trans (dd3450 k hk)
      clear s3409 s3410 s3411 s3412 s3413 s3414 s3415 s3416 s3417 s3418 s3419 s3420 s3421 s3422 s3423 s3424 s3425 s3426 s3427 s3428 s3429 s3430 s3431 s3432 s3433 s3434 s3435 s3436 s3437 s3438 s3439 s3440 s3441 s3442 s3443 s3444 s3445 s3446 s3447 s3448 s3449 pr3451
      have pr3498 := gEl.set (i := i) (z := (-1)) lp3315u lp3315c30 (by decide) eh3453 (by omega) (by omega)
      have hoy3499 : gOy ty3318 31 (-1) (i + 1) h3453 := gOy.step (by omega) pr3455 of9
      refine gy_s 4 (pc' := 394) (L' := [some (.ref x), some (.int (zi u)), some (.int (zi v)), some (.int (zi i)), none]) (S' := [.int (zi 2), .int ((zi u) + (zi v))]) (L2 := [some (.ref x), some (.int (zi u)), some (.int (zi v)), some (.int (zi i)), none]) (S2 := [.int (zi 2), .int (zi (u + v))]) rfl (by simp only [zi_add, zi_sub, zi_mul, zi_neg, zi_and1, zi_and7, zi_and15, zi_and31, zi_and255]) (by simp only [zi_add, zi_sub, zi_mul, zi_neg, zi_and1, zi_and7, zi_and15, zi_and31, zi_and255]) ?_
      refine gy_rem rfl (by decide) (by omega) (by omega) ?_
      have jn3500 : ∀ (jn3500v0 : Int), ((0 ≤ jn3500v0) ∧ (jn3500v0 ≤ 1) ∧ (jn3500v0 = 1 ↔ (u + v) % 2 = 0)) → gz gPP gGG gcn (d + 1) gt130 403 [some (.ref x), some (.int (zi u)), some (.int (zi v)), some (.int (zi i)), none] [.int (zi jn3500v0)] h3453 (fun q _ => ∃ ty9 : Nat → Nat, gSg [1, 2, 3, 4, 5, 6, 7, 8, 9, 10, 11, 12, 13, 14, 15, 16, 17, 18, 19, 20, 21, 22, 23, 24, 25, 26, 27, 28, 29, 30, 31, 32, 33, 34, 35, 36, 37, 38, 39, 40, 41, 42, 200] [x] [8999, 10999, 31999] ty h ty9 q.2.2 ∧ ∃ ip n1 cw ch iv1 : Int, ty9 x = 1 ∧ gfin gt130 q.1 q.2.1 = some none ∧ q.2.2.2.2.2.2 x 16 = .int (zi ip) ∧ 0 ≤ ip ∧ ip ≤ 1 ∧ q.2.2.2.2.2.2 x 53 = .int (zi n1) ∧ 0 ≤ n1 ∧ n1 ≤ 10 ∧ q.2.2.2.2.2.2 x 50 = .int (zi cw) ∧ 0 ≤ cw ∧ cw ≤ 32 ∧ q.2.2.2.2.2.2 x 51 = .int (zi ch) ∧ 0 ≤ ch ∧ ch ≤ 32 ∧ q.2.2.2.2.2.2 x 52 = .int (zi iv1) ∧ 0 ≤ iv1 ∧ iv1 ≤ 100 ∧ (ip = 0) ∧ (n1 = 0) ∧ (cw = 0) ∧ (ch = 0) ∧ (iv1 = 0) ∧ ((q.2.2.1 : Int) = h.1 + 41) ∧ ((q.2.2.2.1 : Int) = h.2.1 + 88652) ∧ (gTs ty9 0 q.2.2) ∧ (gOy ty9 31 (-1) 64 q.2.2) ∧ gUq ty9) := by
        intro jn3500v0 jn3500d
        refine gz_s 2 (pc' := 407) (L' := [some (.ref x), some (.int (zi u)), some (.int (zi v)), some (.int (zi i)), some (.int (zi jn3500v0))]) (S' := [.int (zi jn3500v0)]) rfl ?_
        by_cases hc3501 : (jn3500v0 : Int) = 0
        · refine gy_ifT (pc' := 441) rfl (by decide) (by decide) (by omega) hc3501 ?_
          refine gz_s 2 (pc' := 444) (L' := [some (.ref x), some (.int (zi u)), some (.int (zi v)), some (.int (zi i)), some (.int (zi jn3500v0))]) (S' := [.int (zi 7), .int (zi v)]) rfl ?_
          by_cases hc3502 : ¬ (v : Int) = 7
          · refine gy_icT (pc' := 453) rfl (by decide) (by decide) (by omega) (by omega) hc3502 ?_
            refine gz_s 1 (pc' := 454) (L' := [some (.ref x), some (.int (zi u)), some (.int (zi v)), some (.int (zi i)), some (.int (zi jn3500v0))]) (S' := [.int (zi u)]) rfl ?_
            by_cases hc3503 : ¬ (u : Int) = 0
            · refine gy_ifT (pc' := 463) rfl (by decide) (by decide) (by omega) hc3503 ?_
              refine gy_s 4 (pc' := 365) (L' := [some (.ref x), some (.int ((zi u) + zi (-1))), some (.int ((zi v) + zi 1)), some (.int ((zi i) + zi 1)), some (.int (zi jn3500v0))]) (S' := []) (L2 := [some (.ref x), some (.int (zi (u + (-1)))), some (.int (zi (v + 1))), some (.int (zi (i + 1))), some (.int (zi jn3500v0))]) (S2 := []) rfl (by simp only [zi_add, zi_sub, zi_mul, zi_neg, zi_and1, zi_and7, zi_and15, zi_and31, zi_and255]) (by simp only [zi_add, zi_sub, zi_mul, zi_neg, zi_and1, zi_and7, zi_and15, zi_and31, zi_and255]) ?_
              have k3504 := sh3453.2.1
              have k3504b := sh3453.2.2.1
              have G3505 : gSg [1, 2, 3, 4, 5, 6, 7, 8, 9, 10, 11, 12, 13, 14, 15, 16, 17, 18, 19, 20, 21, 22, 23, 24, 25, 26, 27, 28, 29, 30, 31, 32, 33, 34, 35, 36, 37, 38, 39, 40, 41, 42, 200] [x] [8999, 10999, 31999] ty h ty3318 h3453 := gSg.ss lp3315G sh3453 (by decide)
              exact gz_wk (ihlp3315 ty3318 h3453 (u + (-1)) (v + 1) (i + 1) (by omega) G3505 lp3315u lp3315c0 lp3315c1 lp3315c2 lp3315c3 lp3315c4 lp3315c5 lp3315c6 lp3315c7 lp3315c8 lp3315c9 lp3315c10 lp3315c11 lp3315c12 lp3315c13 lp3315c14 lp3315c15 lp3315c16 lp3315c17 lp3315c18 lp3315c19 lp3315c20 lp3315c21 lp3315c22 lp3315c23 lp3315c24 lp3315c25 lp3315c26 lp3315c27 lp3315c28 lp3315c29 lp3315c30 lp3315c31 lp3315c32 lp3315c33 lp3315c34 lp3315c35 lp3315c36 lp3315c37 lp3315c38 lp3315c39 lp3315c40 lp3315c41 (by omega) (by omega) (by omega) (by omega) (by omega) (by omega) (by omega) s3456 s3457 s3458 s3459 s3460 s3461 s3462 s3463 s3464 s3465 s3466 s3467 s3468 s3469 s3470 s3471 s3472 s3473 s3474 s3475 s3476 s3477 s3478 s3479 s3480 s3481 s3482 s3483 s3484 s3485 s3486 s3487 s3488 s3489 s3490 s3491 s3492 s3493 s3494 s3495 s3496 lp3315k41 hoy3499 (Nat.lt_of_lt_of_eq lp3315w0 sh3453.2.1.symm) ((congrFun sh3453.2.2.2.1 x).trans lp3315w1) ((congrFun sh3453.2.2.2.2.1 x).trans lp3315w2) dd3497) (gLw.s (gLw.s (gLw.s (gLw.s (gLw.n gLw.z)))))
            · refine gy_ifF rfl (by decide) (by decide) (by omega) hc3503 ?_
              refine gy_s 4 (pc' := 365) (L' := [some (.ref x), some (.int (zi u)), some (.int ((zi v) + zi 1)), some (.int ((zi i) + zi 1)), some (.int (zi jn3500v0))]) (S' := []) (L2 := [some (.ref x), some (.int (zi u)), some (.int (zi (v + 1))), some (.int (zi (i + 1))), some (.int (zi jn3500v0))]) (S2 := []) rfl (by simp only [zi_add, zi_sub, zi_mul, zi_neg, zi_and1, zi_and7, zi_and15, zi_and31, zi_and255]) (by simp only [zi_add, zi_sub, zi_mul, zi_neg, zi_and1, zi_and7, zi_and15, zi_and31, zi_and255]) ?_
              have k3506 := sh3453.2.1
              have k3506b := sh3453.2.2.1
              have G3507 : gSg [1, 2, 3, 4, 5, 6, 7, 8, 9, 10, 11, 12, 13, 14, 15, 16, 17, 18, 19, 20, 21, 22, 23, 24, 25, 26, 27, 28, 29, 30, 31, 32, 33, 34, 35, 36, 37, 38, 39, 40, 41, 42, 200] [x] [8999, 10999, 31999] ty h ty3318 h3453 := gSg.ss lp3315G sh3453 (by decide)
              exact gz_wk (ihlp3315 ty3318 h3453 u (v + 1) (i + 1) (by omega) G3507 lp3315u lp3315c0 lp3315c1 lp3315c2 lp3315c3 lp3315c4 lp3315c5 lp3315c6 lp3315c7 lp3315c8 lp3315c9 lp3315c10 lp3315c11 lp3315c12 lp3315c13 lp3315c14 lp3315c15 lp3315c16 lp3315c17 lp3315c18 lp3315c19 lp3315c20 lp3315c21 lp3315c22 lp3315c23 lp3315c24 lp3315c25 lp3315c26 lp3315c27 lp3315c28 lp3315c29 lp3315c30 lp3315c31 lp3315c32 lp3315c33 lp3315c34 lp3315c35 lp3315c36 lp3315c37 lp3315c38 lp3315c39 lp3315c40 lp3315c41 (by omega) (by omega) (by omega) (by omega) (by omega) (by omega) (by omega) s3456 s3457 s3458 s3459 s3460 s3461 s3462 s3463 s3464 s3465 s3466 s3467 s3468 s3469 s3470 s3471 s3472 s3473 s3474 s3475 s3476 s3477 s3478 s3479 s3480 s3481 s3482 s3483 s3484 s3485 s3486 s3487 s3488 s3489 s3490 s3491 s3492 s3493 s3494 s3495 s3496 lp3315k41 hoy3499 (Nat.lt_of_lt_of_eq lp3315w0 sh3453.2.1.symm) ((congrFun sh3453.2.2.2.1 x).trans lp3315w1) ((congrFun sh3453.2.2.2.2.1 x).trans lp3315w2) dd3497) (gLw.s (gLw.s (gLw.s (gLw.s (gLw.n gLw.z)))))
          · refine gy_icF rfl (by decide) (by decide) (by omega) (by omega) hc3502 ?_
            refine gy_s 4 (pc' := 365) (L' := [some (.ref x), some (.int ((zi u) + zi 1)), some (.int (zi v)), some (.int ((zi i) + zi 1)), some (.int (zi jn3500v0))]) (S' := []) (L2 := [some (.ref x), some (.int (zi (u + 1))), some (.int (zi v)), some (.int (zi (i + 1))), some (.int (zi jn3500v0))]) (S2 := []) rfl (by simp only [zi_add, zi_sub, zi_mul, zi_neg, zi_and1, zi_and7, zi_and15, zi_and31, zi_and255]) (by simp only [zi_add, zi_sub, zi_mul, zi_neg, zi_and1, zi_and7, zi_and15, zi_and31, zi_and255]) ?_
            have k3508 := sh3453.2.1
            have k3508b := sh3453.2.2.1
            have G3509 : gSg [1, 2, 3, 4, 5, 6, 7, 8, 9, 10, 11, 12, 13, 14, 15, 16, 17, 18, 19, 20, 21, 22, 23, 24, 25, 26, 27, 28, 29, 30, 31, 32, 33, 34, 35, 36, 37, 38, 39, 40, 41, 42, 200] [x] [8999, 10999, 31999] ty h ty3318 h3453 := gSg.ss lp3315G sh3453 (by decide)
            exact gz_wk (ihlp3315 ty3318 h3453 (u + 1) v (i + 1) (by omega) G3509 lp3315u lp3315c0 lp3315c1 lp3315c2 lp3315c3 lp3315c4 lp3315c5 lp3315c6 lp3315c7 lp3315c8 lp3315c9 lp3315c10 lp3315c11 lp3315c12 lp3315c13 lp3315c14 lp3315c15 lp3315c16 lp3315c17 lp3315c18 lp3315c19 lp3315c20 lp3315c21 lp3315c22 lp3315c23 lp3315c24 lp3315c25 lp3315c26 lp3315c27 lp3315c28 lp3315c29 lp3315c30 lp3315c31 lp3315c32 lp3315c33 lp3315c34 lp3315c35 lp3315c36 lp3315c37 lp3315c38 lp3315c39 lp3315c40 lp3315c41 (by omega) (by omega) (by omega) (by omega) (by omega) (by omega) (by omega) s3456 s3457 s3458 s3459 s3460 s3461 s3462 s3463 s3464 s3465 s3466 s3467 s3468 s3469 s3470 s3471 s3472 s3473 s3474 s3475 s3476 s3477 s3478 s3479 s3480 s3481 s3482 s3483 s3484 s3485 s3486 s3487 s3488 s3489 s3490 s3491 s3492 s3493 s3494 s3495 s3496 lp3315k41 hoy3499 (Nat.lt_of_lt_of_eq lp3315w0 sh3453.2.1.symm) ((congrFun sh3453.2.2.2.1 x).trans lp3315w1) ((congrFun sh3453.2.2.2.2.1 x).trans lp3315w2) dd3497) (gLw.s (gLw.s (gLw.s (gLw.s (gLw.n gLw.z)))))
        · refine gy_ifF rfl (by decide) (by decide) (by omega) hc3501 ?_
          refine gz_s 2 (pc' := 413) (L' := [some (.ref x), some (.int (zi u)), some (.int (zi v)), some (.int (zi i)), some (.int (zi jn3500v0))]) (S' := [.int (zi 7), .int (zi u)]) rfl ?_
          by_cases hc3510 : ¬ (u : Int) = 7
          · refine gy_icT (pc' := 422) rfl (by decide) (by decide) (by omega) (by omega) hc3510 ?_
            refine gz_s 1 (pc' := 423) (L' := [some (.ref x), some (.int (zi u)), some (.int (zi v)), some (.int (zi i)), some (.int (zi jn3500v0))]) (S' := [.int (zi v)]) rfl ?_
            by_cases hc3511 : ¬ (v : Int) = 0
            · refine gy_ifT (pc' := 432) rfl (by decide) (by decide) (by omega) hc3511 ?_
              refine gy_s 5 (pc' := 365) (L' := [some (.ref x), some (.int ((zi u) + zi 1)), some (.int ((zi v) + zi (-1))), some (.int ((zi i) + zi 1)), some (.int (zi jn3500v0))]) (S' := []) (L2 := [some (.ref x), some (.int (zi (u + 1))), some (.int (zi (v + (-1)))), some (.int (zi (i + 1))), some (.int (zi jn3500v0))]) (S2 := []) rfl (by simp only [zi_add, zi_sub, zi_mul, zi_neg, zi_and1, zi_and7, zi_and15, zi_and31, zi_and255]) (by simp only [zi_add, zi_sub, zi_mul, zi_neg, zi_and1, zi_and7, zi_and15, zi_and31, zi_and255]) ?_
              have k3512 := sh3453.2.1
              have k3512b := sh3453.2.2.1
              have G3513 : gSg [1, 2, 3, 4, 5, 6, 7, 8, 9, 10, 11, 12, 13, 14, 15, 16, 17, 18, 19, 20, 21, 22, 23, 24, 25, 26, 27, 28, 29, 30, 31, 32, 33, 34, 35, 36, 37, 38, 39, 40, 41, 42, 200] [x] [8999, 10999, 31999] ty h ty3318 h3453 := gSg.ss lp3315G sh3453 (by decide)
              exact gz_wk (ihlp3315 ty3318 h3453 (u + 1) (v + (-1)) (i + 1) (by omega) G3513 lp3315u lp3315c0 lp3315c1 lp3315c2 lp3315c3 lp3315c4 lp3315c5 lp3315c6 lp3315c7 lp3315c8 lp3315c9 lp3315c10 lp3315c11 lp3315c12 lp3315c13 lp3315c14 lp3315c15 lp3315c16 lp3315c17 lp3315c18 lp3315c19 lp3315c20 lp3315c21 lp3315c22 lp3315c23 lp3315c24 lp3315c25 lp3315c26 lp3315c27 lp3315c28 lp3315c29 lp3315c30 lp3315c31 lp3315c32 lp3315c33 lp3315c34 lp3315c35 lp3315c36 lp3315c37 lp3315c38 lp3315c39 lp3315c40 lp3315c41 (by omega) (by omega) (by omega) (by omega) (by omega) (by omega) (by omega) s3456 s3457 s3458 s3459 s3460 s3461 s3462 s3463 s3464 s3465 s3466 s3467 s3468 s3469 s3470 s3471 s3472 s3473 s3474 s3475 s3476 s3477 s3478 s3479 s3480 s3481 s3482 s3483 s3484 s3485 s3486 s3487 s3488 s3489 s3490 s3491 s3492 s3493 s3494 s3495 s3496 lp3315k41 hoy3499 (Nat.lt_of_lt_of_eq lp3315w0 sh3453.2.1.symm) ((congrFun sh3453.2.2.2.1 x).trans lp3315w1) ((congrFun sh3453.2.2.2.2.1 x).trans lp3315w2) dd3497) (gLw.s (gLw.s (gLw.s (gLw.s (gLw.n gLw.z)))))
            · refine gy_ifF rfl (by decide) (by decide) (by omega) hc3511 ?_
              refine gy_s 4 (pc' := 365) (L' := [some (.ref x), some (.int ((zi u) + zi 1)), some (.int (zi v)), some (.int ((zi i) + zi 1)), some (.int (zi jn3500v0))]) (S' := []) (L2 := [some (.ref x), some (.int (zi (u + 1))), some (.int (zi v)), some (.int (zi (i + 1))), some (.int (zi jn3500v0))]) (S2 := []) rfl (by simp only [zi_add, zi_sub, zi_mul, zi_neg, zi_and1, zi_and7, zi_and15, zi_and31, zi_and255]) (by simp only [zi_add, zi_sub, zi_mul, zi_neg, zi_and1, zi_and7, zi_and15, zi_and31, zi_and255]) ?_
              have k3514 := sh3453.2.1
              have k3514b := sh3453.2.2.1
              have G3515 : gSg [1, 2, 3, 4, 5, 6, 7, 8, 9, 10, 11, 12, 13, 14, 15, 16, 17, 18, 19, 20, 21, 22, 23, 24, 25, 26, 27, 28, 29, 30, 31, 32, 33, 34, 35, 36, 37, 38, 39, 40, 41, 42, 200] [x] [8999, 10999, 31999] ty h ty3318 h3453 := gSg.ss lp3315G sh3453 (by decide)
              exact gz_wk (ihlp3315 ty3318 h3453 (u + 1) v (i + 1) (by omega) G3515 lp3315u lp3315c0 lp3315c1 lp3315c2 lp3315c3 lp3315c4 lp3315c5 lp3315c6 lp3315c7 lp3315c8 lp3315c9 lp3315c10 lp3315c11 lp3315c12 lp3315c13 lp3315c14 lp3315c15 lp3315c16 lp3315c17 lp3315c18 lp3315c19 lp3315c20 lp3315c21 lp3315c22 lp3315c23 lp3315c24 lp3315c25 lp3315c26 lp3315c27 lp3315c28 lp3315c29 lp3315c30 lp3315c31 lp3315c32 lp3315c33 lp3315c34 lp3315c35 lp3315c36 lp3315c37 lp3315c38 lp3315c39 lp3315c40 lp3315c41 (by omega) (by omega) (by omega) (by omega) (by omega) (by omega) (by omega) s3456 s3457 s3458 s3459 s3460 s3461 s3462 s3463 s3464 s3465 s3466 s3467 s3468 s3469 s3470 s3471 s3472 s3473 s3474 s3475 s3476 s3477 s3478 s3479 s3480 s3481 s3482 s3483 s3484 s3485 s3486 s3487 s3488 s3489 s3490 s3491 s3492 s3493 s3494 s3495 s3496 lp3315k41 hoy3499 (Nat.lt_of_lt_of_eq lp3315w0 sh3453.2.1.symm) ((congrFun sh3453.2.2.2.1 x).trans lp3315w1) ((congrFun sh3453.2.2.2.2.1 x).trans lp3315w2) dd3497) (gLw.s (gLw.s (gLw.s (gLw.s (gLw.n gLw.z)))))
          · refine gy_icF rfl (by decide) (by decide) (by omega) (by omega) hc3510 ?_
            refine gy_s 4 (pc' := 365) (L' := [some (.ref x), some (.int (zi u)), some (.int ((zi v) + zi 1)), some (.int ((zi i) + zi 1)), some (.int (zi jn3500v0))]) (S' := []) (L2 := [some (.ref x), some (.int (zi u)), some (.int (zi (v + 1))), some (.int (zi (i + 1))), some (.int (zi jn3500v0))]) (S2 := []) rfl (by simp only [zi_add, zi_sub, zi_mul, zi_neg, zi_and1, zi_and7, zi_and15, zi_and31, zi_and255]) (by simp only [zi_add, zi_sub, zi_mul, zi_neg, zi_and1, zi_and7, zi_and15, zi_and31, zi_and255]) ?_
            have k3516 := sh3453.2.1
            have k3516b := sh3453.2.2.1
            have G3517 : gSg [1, 2, 3, 4, 5, 6, 7, 8, 9, 10, 11, 12, 13, 14, 15, 16, 17, 18, 19, 20, 21, 22, 23, 24, 25, 26, 27, 28, 29, 30, 31, 32, 33, 34, 35, 36, 37, 38, 39, 40, 41, 42, 200] [x] [8999, 10999, 31999] ty h ty3318 h3453 := gSg.ss lp3315G sh3453 (by decide)
            exact gz_wk (ihlp3315 ty3318 h3453 u (v + 1) (i + 1) (by omega) G3517 lp3315u lp3315c0 lp3315c1 lp3315c2 lp3315c3 lp3315c4 lp3315c5 lp3315c6 lp3315c7 lp3315c8 lp3315c9 lp3315c10 lp3315c11 lp3315c12 lp3315c13 lp3315c14 lp3315c15 lp3315c16 lp3315c17 lp3315c18 lp3315c19 lp3315c20 lp3315c21 lp3315c22 lp3315c23 lp3315c24 lp3315c25 lp3315c26 lp3315c27 lp3315c28 lp3315c29 lp3315c30 lp3315c31 lp3315c32 lp3315c33 lp3315c34 lp3315c35 lp3315c36 lp3315c37 lp3315c38 lp3315c39 lp3315c40 lp3315c41 (by omega) (by omega) (by omega) (by omega) (by omega) (by omega) (by omega) s3456 s3457 s3458 s3459 s3460 s3461 s3462 s3463 s3464 s3465 s3466 s3467 s3468 s3469 s3470 s3471 s3472 s3473 s3474 s3475 s3476 s3477 s3478 s3479 s3480 s3481 s3482 s3483 s3484 s3485 s3486 s3487 s3488 s3489 s3490 s3491 s3492 s3493 s3494 s3495 s3496 lp3315k41 hoy3499 (Nat.lt_of_lt_of_eq lp3315w0 sh3453.2.1.symm) ((congrFun sh3453.2.2.2.1 x).trans lp3315w1) ((congrFun sh3453.2.2.2.2.1 x).trans lp3315w2) dd3497) (gLw.s (gLw.s (gLw.s (gLw.s (gLw.n gLw.z)))))
      by_cases hc3518 : ¬ ((u + v) % 2 : Int) = 0
      · refine gy_ifT (pc' := 402) rfl (by decide) (by decide) (by omega) hc3518 ?_
        refine gz_s 1 (pc' := 403) (L' := [some (.ref x), some (.int (zi u)), some (.int (zi v)), some (.int (zi i)), none]) (S' := [.int (zi 0)]) rfl ?_
        exact jn3500 0 (by omega)
      · refine gy_ifF rfl (by decide) (by decide) (by omega) hc3518 ?_
        refine gz_s 2 (pc' := 403) (L' := [some (.ref x), some (.int (zi u)), some (.int (zi v)), some (.int (zi i)), none]) (S' := [.int (zi 1)]) rfl ?_
        exact jn3500 1 (by omega)
set_option maxRecDepth 20000 in
set_option maxHeartbeats 4000000 in
theorem cmlp3311 (d : Nat) {ty : Nat → Nat} {h : gH} (hJ : gJ rT 1027 ty h) (x : Nat) (nx : 1027 ≤ x) (c3 c23 c46 c72 c101 c133 c171 c209 c250 c294 c341 c391 c447 c503 c562 c624 c689 c760 c831 c905 c982 c1065 c1148 c1234 c1323 c1418 c1513 c1611 c1715 c1819 c1926 c2039 c2152 c2268 c2390 c2512 c2637 c2768 c2899 c3033 c3173 : Nat) : ∀ (fu : Nat) (ty3313 : Nat → Nat) (h3312 : gH) (k : Int), (257 - k).toNat < fu → gSg [1, 2, 3, 4, 5, 6, 7, 8, 9, 10, 11, 12, 13, 14, 15, 16, 17, 18, 19, 20, 21, 22, 23, 24, 25, 26, 27, 28, 29, 30, 31, 32, 33, 34, 35, 36, 37, 38, 39, 40, 41, 42, 200] [x] [8999, 10999, 31999] ty h ty3313 h3312 → gUq ty3313 → ty3313 x = 200 → ty3313 c3 = 2 → ty3313 c23 = 3 → ty3313 c46 = 4 → ty3313 c72 = 5 → ty3313 c101 = 6 → ty3313 c133 = 7 → ty3313 c171 = 8 → ty3313 c209 = 9 → ty3313 c250 = 10 → ty3313 c294 = 11 → ty3313 c341 = 12 → ty3313 c391 = 13 → ty3313 c447 = 14 → ty3313 c503 = 15 → ty3313 c562 = 16 → ty3313 c624 = 17 → ty3313 c689 = 18 → ty3313 c760 = 19 → ty3313 c831 = 20 → ty3313 c905 = 21 → ty3313 c982 = 22 → ty3313 c1065 = 23 → ty3313 c1148 = 24 → ty3313 c1234 = 25 → ty3313 c1323 = 26 → ty3313 c1418 = 27 → ty3313 c1513 = 28 → ty3313 c1611 = 29 → ty3313 c1715 = 30 → ty3313 c1819 = 31 → ty3313 c1926 = 32 → ty3313 c2039 = 33 → ty3313 c2152 = 34 → ty3313 c2268 = 35 → ty3313 c2390 = 36 → ty3313 c2512 = 37 → ty3313 c2637 = 38 → ty3313 c2768 = 39 → ty3313 c2899 = 40 → ty3313 c3033 = 41 → ty3313 c3173 = 42 → (0 ≤ k ∧ k ≤ 256) → ((h3312.1 : Int) = h.1 + 41) → ((h3312.2.1 : Int) = h.2.1 + 88652) → h3312.2.2.2.2 x 2 = .ref c3 → h3312.2.2.2.2 x 4 = .ref c23 → h3312.2.2.2.2 x 9 = .ref c46 → h3312.2.2.2.2 x 10 = .ref c72 → h3312.2.2.2.2 x 11 = .ref c101 → h3312.2.2.2.2 x 12 = .ref c133 → h3312.2.2.2.2 x 13 = .ref c171 → h3312.2.2.2.2 x 14 = .ref c209 → h3312.2.2.2.2 x 15 = .ref c250 → h3312.2.2.2.2 x 25 = .ref c294 → h3312.2.2.2.2 x 26 = .ref c341 → h3312.2.2.2.2 x 27 = .ref c391 → h3312.2.2.2.2 x 28 = .ref c447 → h3312.2.2.2.2 x 29 = .ref c503 → h3312.2.2.2.2 x 30 = .ref c562 → h3312.2.2.2.2 x 31 = .ref c624 → h3312.2.2.2.2 x 32 = .ref c689 → h3312.2.2.2.2 x 33 = .ref c760 → h3312.2.2.2.2 x 34 = .ref c831 → h3312.2.2.2.2 x 35 = .ref c905 → h3312.2.2.2.2 x 36 = .ref c982 → h3312.2.2.2.2 x 37 = .ref c1065 → h3312.2.2.2.2 x 38 = .ref c1148 → h3312.2.2.2.2 x 40 = .ref c1234 → h3312.2.2.2.2 x 49 = .ref c1323 → h3312.2.2.2.2 x 54 = .ref c1418 → h3312.2.2.2.2 x 55 = .ref c1513 → h3312.2.2.2.2 x 56 = .ref c1611 → h3312.2.2.2.2 x 57 = .ref c1715 → h3312.2.2.2.2 x 58 = .ref c1819 → h3312.2.2.2.2 x 60 = .ref c1926 → h3312.2.2.2.2 x 63 = .ref c2039 → h3312.2.2.2.2 x 65 = .ref c2152 → h3312.2.2.2.2 x 66 = .ref c2268 → h3312.2.2.2.2 x 68 = .ref c2390 → h3312.2.2.2.2 x 69 = .ref c2512 → h3312.2.2.2.2 x 70 = .ref c2637 → h3312.2.2.2.2 x 71 = .ref c2768 → h3312.2.2.2.2 x 72 = .ref c2899 → h3312.2.2.2.2 x 73 = .ref c3033 → h3312.2.2.2.2 x 76 = .ref c3173 → gNo [1] ty3313 → x < h3312.1 → h3312.2.2.1 x = some (.inr 12) → h3312.2.2.2.1 x = 0 → (∀ k, ¬ k ∈ ([76, 73, 72, 71, 70, 69, 68, 66, 65, 63, 60, 58, 57, 56, 55, 54, 49, 40, 38, 37, 36, 35, 34, 33, 32, 31, 30, 29, 28, 27, 26, 25, 15, 14, 13, 12, 11, 10, 9, 4, 2] : List Nat) → h3312.2.2.2.2 x k = defaultValue (gGG.2.1 12 k)) → gz gPP gGG gcn (d + 1) gt130 338 [some (.ref x), some (.int (zi k)), none, none, none] [] h3312 (fun q _ => ∃ ty9 : Nat → Nat, gSg [1, 2, 3, 4, 5, 6, 7, 8, 9, 10, 11, 12, 13, 14, 15, 16, 17, 18, 19, 20, 21, 22, 23, 24, 25, 26, 27, 28, 29, 30, 31, 32, 33, 34, 35, 36, 37, 38, 39, 40, 41, 42, 200] [x] [8999, 10999, 31999] ty h ty9 q.2.2 ∧ ∃ ip n1 cw ch iv1 : Int, ty9 x = 1 ∧ gfin gt130 q.1 q.2.1 = some none ∧ q.2.2.2.2.2.2 x 16 = .int (zi ip) ∧ 0 ≤ ip ∧ ip ≤ 1 ∧ q.2.2.2.2.2.2 x 53 = .int (zi n1) ∧ 0 ≤ n1 ∧ n1 ≤ 10 ∧ q.2.2.2.2.2.2 x 50 = .int (zi cw) ∧ 0 ≤ cw ∧ cw ≤ 32 ∧ q.2.2.2.2.2.2 x 51 = .int (zi ch) ∧ 0 ≤ ch ∧ ch ≤ 32 ∧ q.2.2.2.2.2.2 x 52 = .int (zi iv1) ∧ 0 ≤ iv1 ∧ iv1 ≤ 100 ∧ (ip = 0) ∧ (n1 = 0) ∧ (cw = 0) ∧ (ch = 0) ∧ (iv1 = 0) ∧ ((q.2.2.1 : Int) = h.1 + 41) ∧ ((q.2.2.2.1 : Int) = h.2.1 + 88652) ∧ (gTs ty9 0 q.2.2) ∧ (gOy ty9 31 (-1) 64 q.2.2) ∧ gUq ty9) := by
  intro fu
  induction fu with
  | zero => intro ty3313 h3312 k hm; exact absurd hm (Nat.not_lt_zero _)
  | succ fu ihlp3311 =>
    intro ty3313 h3312 k lp3311m lp3311G lp3311u lp3311c0 lp3311c1 lp3311c2 lp3311c3 lp3311c4 lp3311c5 lp3311c6 lp3311c7 lp3311c8 lp3311c9 lp3311c10 lp3311c11 lp3311c12 lp3311c13 lp3311c14 lp3311c15 lp3311c16 lp3311c17 lp3311c18 lp3311c19 lp3311c20 lp3311c21 lp3311c22 lp3311c23 lp3311c24 lp3311c25 lp3311c26 lp3311c27 lp3311c28 lp3311c29 lp3311c30 lp3311c31 lp3311c32 lp3311c33 lp3311c34 lp3311c35 lp3311c36 lp3311c37 lp3311c38 lp3311c39 lp3311c40 lp3311c41 lp3311f0 lp3311f1 lp3311f2 lp3311k0 lp3311k1 lp3311k2 lp3311k3 lp3311k4 lp3311k5 lp3311k6 lp3311k7 lp3311k8 lp3311k9 lp3311k10 lp3311k11 lp3311k12 lp3311k13 lp3311k14 lp3311k15 lp3311k16 lp3311k17 lp3311k18 lp3311k19 lp3311k20 lp3311k21 lp3311k22 lp3311k23 lp3311k24 lp3311k25 lp3311k26 lp3311k27 lp3311k28 lp3311k29 lp3311k30 lp3311k31 lp3311k32 lp3311k33 lp3311k34 lp3311k35 lp3311k36 lp3311k37 lp3311k38 lp3311k39 lp3311k40 lp3311k41 lp3311w0 lp3311w1 lp3311w2 lp3311w3
    have sh3312 : gSs rT 1027 ty3313 [8999, 10999, 31999] h3312 h3312 := gSs.rf lp3311G.1
    refine gz_s 2 (pc' := 342) (L' := [some (.ref x), some (.int (zi k)), none, none, none]) (S' := [.int (zi 256), .int (zi k)]) rfl ?_
    by_cases hc3314 : (256 : Int) ≤ k
    · refine gy_icT (pc' := 359) rfl (by decide) (by decide) (by omega) (by omega) hc3314 ?_
      refine gz_s 6 (pc' := 365) (L' := [some (.ref x), some (.int (zi 0)), some (.int (zi 0)), some (.int (zi 0)), none]) (S' := []) rfl ?_
      have hoy3316 : gOy ty3313 31 (-1) 0 h3312 := ⟨_, gRow.mk lp3311u lp3311c30 (by decide) (fun _ => rfl), fun j hj => absurd hj (by omega)⟩
      have lp3315 := cmlp3315 d hJ x nx c3 c23 c46 c72 c101 c133 c171 c209 c250 c294 c341 c391 c447 c503 c562 c624 c689 c760 c831 c905 c982 c1065 c1148 c1234 c1323 c1418 c1513 c1611 c1715 c1819 c1926 c2039 c2152 c2268 c2390 c2512 c2637 c2768 c2899 c3033 c3173
      have hz0 : gzu (0 : Int).toNat = 0 := rfl
      have hz1 : gzv (0 : Int).toNat = 0 := rfl
      have G3519 : gSg [1, 2, 3, 4, 5, 6, 7, 8, 9, 10, 11, 12, 13, 14, 15, 16, 17, 18, 19, 20, 21, 22, 23, 24, 25, 26, 27, 28, 29, 30, 31, 32, 33, 34, 35, 36, 37, 38, 39, 40, 41, 42, 200] [x] [8999, 10999, 31999] ty h ty3313 h3312 := gSg.ss lp3311G sh3312 (by decide)
      exact gz_wk (lp3315 _ ty3313 h3312 0 0 0 (Nat.lt_succ_self _) G3519 lp3311u lp3311c0 lp3311c1 lp3311c2 lp3311c3 lp3311c4 lp3311c5 lp3311c6 lp3311c7 lp3311c8 lp3311c9 lp3311c10 lp3311c11 lp3311c12 lp3311c13 lp3311c14 lp3311c15 lp3311c16 lp3311c17 lp3311c18 lp3311c19 lp3311c20 lp3311c21 lp3311c22 lp3311c23 lp3311c24 lp3311c25 lp3311c26 lp3311c27 lp3311c28 lp3311c29 lp3311c30 lp3311c31 lp3311c32 lp3311c33 lp3311c34 lp3311c35 lp3311c36 lp3311c37 lp3311c38 lp3311c39 lp3311c40 lp3311c41 (by omega) (by omega) (by omega) (by omega) (by omega) (by omega) (by omega) lp3311k0 lp3311k1 lp3311k2 lp3311k3 lp3311k4 lp3311k5 lp3311k6 lp3311k7 lp3311k8 lp3311k9 lp3311k10 lp3311k11 lp3311k12 lp3311k13 lp3311k14 lp3311k15 lp3311k16 lp3311k17 lp3311k18 lp3311k19 lp3311k20 lp3311k21 lp3311k22 lp3311k23 lp3311k24 lp3311k25 lp3311k26 lp3311k27 lp3311k28 lp3311k29 lp3311k30 lp3311k31 lp3311k32 lp3311k33 lp3311k34 lp3311k35 lp3311k36 lp3311k37 lp3311k38 lp3311k39 lp3311k40 lp3311k41 hoy3316 lp3311w0 lp3311w1 lp3311w2 lp3311w3) (gLw.s (gLw.s (gLw.s (gLw.s (gLw.n gLw.z)))))
    · refine gy_icF rfl (by decide) (by decide) (by omega) (by omega) hc3314 ?_
      refine gz_s 1 (pc' := 346) (L' := [some (.ref x), some (.int (zi k)), none, none, none]) (S' := [.ref x]) rfl ?_
      refine gz_get rfl (by decide) rfl nx lp3311w0 lp3311w1 lp3311k6 ?_
      refine gz_s 2 (pc' := 352) (L' := [some (.ref x), some (.int (zi k)), none, none, none]) (S' := [.int (zi 16), .int (zi k), .ref c171]) rfl ?_
      have hl3520 : 256 ≤ h3312.2.2.2.1 c171 ∧ h3312.2.2.2.1 c171 ≤ 256 := gJ.rowl (G := gGG) sh3312.1 lp3311c7 rfl
      refine gs_ast rfl (by decide) sh3312 lp3311c7 rfl rfl rfl (by decide) (fun _ => rfl) (by omega) (by omega) (fun _ => (by decide : (8999 : Nat) ∈ ([8999, 10999, 31999] : List Nat))) (by omega) (by omega) (fun h3521 sh3521 eh3521 fh3521 => ?_)
      have s3522 := (fh3521 x 2 (fun q => absurd (((lp3311c0).symm.trans (congrArg ty3313 q.1)).trans lp3311c7) (by decide))).trans lp3311k0
      have s3523 := (fh3521 x 4 (fun q => absurd (((lp3311c0).symm.trans (congrArg ty3313 q.1)).trans lp3311c7) (by decide))).trans lp3311k1
      have s3524 := (fh3521 x 9 (fun q => absurd (((lp3311c0).symm.trans (congrArg ty3313 q.1)).trans lp3311c7) (by decide))).trans lp3311k2
      have s3525 := (fh3521 x 10 (fun q => absurd (((lp3311c0).symm.trans (congrArg ty3313 q.1)).trans lp3311c7) (by decide))).trans lp3311k3
      have s3526 := (fh3521 x 11 (fun q => absurd (((lp3311c0).symm.trans (congrArg ty3313 q.1)).trans lp3311c7) (by decide))).trans lp3311k4
      have s3527 := (fh3521 x 12 (fun q => absurd (((lp3311c0).symm.trans (congrArg ty3313 q.1)).trans lp3311c7) (by decide))).trans lp3311k5
      have s3528 := (fh3521 x 13 (fun q => absurd (((lp3311c0).symm.trans (congrArg ty3313 q.1)).trans lp3311c7) (by decide))).trans lp3311k6
      have s3529 := (fh3521 x 14 (fun q => absurd (((lp3311c0).symm.trans (congrArg ty3313 q.1)).trans lp3311c7) (by decide))).trans lp3311k7
      have s3530 := (fh3521 x 15 (fun q => absurd (((lp3311c0).symm.trans (congrArg ty3313 q.1)).trans lp3311c7) (by decide))).trans lp3311k8
      have s3531 := (fh3521 x 25 (fun q => absurd (((lp3311c0).symm.trans (congrArg ty3313 q.1)).trans lp3311c7) (by decide))).trans lp3311k9
      have s3532 := (fh3521 x 26 (fun q => absurd (((lp3311c0).symm.trans (congrArg ty3313 q.1)).trans lp3311c7) (by decide))).trans lp3311k10
      have s3533 := (fh3521 x 27 (fun q => absurd (((lp3311c0).symm.trans (congrArg ty3313 q.1)).trans lp3311c7) (by decide))).trans lp3311k11
      have s3534 := (fh3521 x 28 (fun q => absurd (((lp3311c0).symm.trans (congrArg ty3313 q.1)).trans lp3311c7) (by decide))).trans lp3311k12
      have s3535 := (fh3521 x 29 (fun q => absurd (((lp3311c0).symm.trans (congrArg ty3313 q.1)).trans lp3311c7) (by decide))).trans lp3311k13
      have s3536 := (fh3521 x 30 (fun q => absurd (((lp3311c0).symm.trans (congrArg ty3313 q.1)).trans lp3311c7) (by decide))).trans lp3311k14
      have s3537 := (fh3521 x 31 (fun q => absurd (((lp3311c0).symm.trans (congrArg ty3313 q.1)).trans lp3311c7) (by decide))).trans lp3311k15
      have s3538 := (fh3521 x 32 (fun q => absurd (((lp3311c0).symm.trans (congrArg ty3313 q.1)).trans lp3311c7) (by decide))).trans lp3311k16
      have s3539 := (fh3521 x 33 (fun q => absurd (((lp3311c0).symm.trans (congrArg ty3313 q.1)).trans lp3311c7) (by decide))).trans lp3311k17
      have s3540 := (fh3521 x 34 (fun q => absurd (((lp3311c0).symm.trans (congrArg ty3313 q.1)).trans lp3311c7) (by decide))).trans lp3311k18
      have s3541 := (fh3521 x 35 (fun q => absurd (((lp3311c0).symm.trans (congrArg ty3313 q.1)).trans lp3311c7) (by decide))).trans lp3311k19
      have s3542 := (fh3521 x 36 (fun q => absurd (((lp3311c0).symm.trans (congrArg ty3313 q.1)).trans lp3311c7) (by decide))).trans lp3311k20
      have s3543 := (fh3521 x 37 (fun q => absurd (((lp3311c0).symm.trans (congrArg ty3313 q.1)).trans lp3311c7) (by decide))).trans lp3311k21
      have s3544 := (fh3521 x 38 (fun q => absurd (((lp3311c0).symm.trans (congrArg ty3313 q.1)).trans lp3311c7) (by decide))).trans lp3311k22
      have s3545 := (fh3521 x 40 (fun q => absurd (((lp3311c0).symm.trans (congrArg ty3313 q.1)).trans lp3311c7) (by decide))).trans lp3311k23
      have s3546 := (fh3521 x 49 (fun q => absurd (((lp3311c0).symm.trans (congrArg ty3313 q.1)).trans lp3311c7) (by decide))).trans lp3311k24
      have s3547 := (fh3521 x 54 (fun q => absurd (((lp3311c0).symm.trans (congrArg ty3313 q.1)).trans lp3311c7) (by decide))).trans lp3311k25
      have s3548 := (fh3521 x 55 (fun q => absurd (((lp3311c0).symm.trans (congrArg ty3313 q.1)).trans lp3311c7) (by decide))).trans lp3311k26
      have s3549 := (fh3521 x 56 (fun q => absurd (((lp3311c0).symm.trans (congrArg ty3313 q.1)).trans lp3311c7) (by decide))).trans lp3311k27
      have s3550 := (fh3521 x 57 (fun q => absurd (((lp3311c0).symm.trans (congrArg ty3313 q.1)).trans lp3311c7) (by decide))).trans lp3311k28
      have s3551 := (fh3521 x 58 (fun q => absurd (((lp3311c0).symm.trans (congrArg ty3313 q.1)).trans lp3311c7) (by decide))).trans lp3311k29
      have s3552 := (fh3521 x 60 (fun q => absurd (((lp3311c0).symm.trans (congrArg ty3313 q.1)).trans lp3311c7) (by decide))).trans lp3311k30
      have s3553 := (fh3521 x 63 (fun q => absurd (((lp3311c0).symm.trans (congrArg ty3313 q.1)).trans lp3311c7) (by decide))).trans lp3311k31
      have s3554 := (fh3521 x 65 (fun q => absurd (((lp3311c0).symm.trans (congrArg ty3313 q.1)).trans lp3311c7) (by decide))).trans lp3311k32
      have s3555 := (fh3521 x 66 (fun q => absurd (((lp3311c0).symm.trans (congrArg ty3313 q.1)).trans lp3311c7) (by decide))).trans lp3311k33
      have s3556 := (fh3521 x 68 (fun q => absurd (((lp3311c0).symm.trans (congrArg ty3313 q.1)).trans lp3311c7) (by decide))).trans lp3311k34
      have s3557 := (fh3521 x 69 (fun q => absurd (((lp3311c0).symm.trans (congrArg ty3313 q.1)).trans lp3311c7) (by decide))).trans lp3311k35
      have s3558 := (fh3521 x 70 (fun q => absurd (((lp3311c0).symm.trans (congrArg ty3313 q.1)).trans lp3311c7) (by decide))).trans lp3311k36
      have s3559 := (fh3521 x 71 (fun q => absurd (((lp3311c0).symm.trans (congrArg ty3313 q.1)).trans lp3311c7) (by decide))).trans lp3311k37
      have s3560 := (fh3521 x 72 (fun q => absurd (((lp3311c0).symm.trans (congrArg ty3313 q.1)).trans lp3311c7) (by decide))).trans lp3311k38
      have s3561 := (fh3521 x 73 (fun q => absurd (((lp3311c0).symm.trans (congrArg ty3313 q.1)).trans lp3311c7) (by decide))).trans lp3311k39
      have s3562 := (fh3521 x 76 (fun q => absurd (((lp3311c0).symm.trans (congrArg ty3313 q.1)).trans lp3311c7) (by decide))).trans lp3311k40
      have dd3563 : ∀ k, ¬ k ∈ ([76, 73, 72, 71, 70, 69, 68, 66, 65, 63, 60, 58, 57, 56, 55, 54, 49, 40, 38, 37, 36, 35, 34, 33, 32, 31, 30, 29, 28, 27, 26, 25, 15, 14, 13, 12, 11, 10, 9, 4, 2] : List Nat) → h3521.2.2.2.2 x k = defaultValue (gGG.2.1 12 k) := fun k hk => (fh3521 x k (fun q => absurd (((lp3311c0).symm.trans (congrArg ty3313 q.1)).trans lp3311c7) (by decide))).trans (lp3311w3 k hk)
      have pr3564 := gEl.set (i := k) (z := 16) lp3311u lp3311c7 (by decide) eh3521 (by omega) (by omega)
      refine gy_s 2 (pc' := 338) (L' := [some (.ref x), some (.int ((zi k) + zi 1)), none, none, none]) (S' := []) (L2 := [some (.ref x), some (.int (zi (k + 1))), none, none, none]) (S2 := []) rfl (by simp only [zi_add, zi_sub, zi_mul, zi_neg, zi_and1, zi_and7, zi_and15, zi_and31, zi_and255]) (by simp only [zi_add, zi_sub, zi_mul, zi_neg, zi_and1, zi_and7, zi_and15, zi_and31, zi_and255]) ?_
      have k3565 := sh3521.2.1
      have k3565b := sh3521.2.2.1
      have G3566 : gSg [1, 2, 3, 4, 5, 6, 7, 8, 9, 10, 11, 12, 13, 14, 15, 16, 17, 18, 19, 20, 21, 22, 23, 24, 25, 26, 27, 28, 29, 30, 31, 32, 33, 34, 35, 36, 37, 38, 39, 40, 41, 42, 200] [x] [8999, 10999, 31999] ty h ty3313 h3521 := gSg.ss lp3311G sh3521 (by decide)
      exact gz_wk (ihlp3311 ty3313 h3521 (k + 1) (by omega) G3566 lp3311u lp3311c0 lp3311c1 lp3311c2 lp3311c3 lp3311c4 lp3311c5 lp3311c6 lp3311c7 lp3311c8 lp3311c9 lp3311c10 lp3311c11 lp3311c12 lp3311c13 lp3311c14 lp3311c15 lp3311c16 lp3311c17 lp3311c18 lp3311c19 lp3311c20 lp3311c21 lp3311c22 lp3311c23 lp3311c24 lp3311c25 lp3311c26 lp3311c27 lp3311c28 lp3311c29 lp3311c30 lp3311c31 lp3311c32 lp3311c33 lp3311c34 lp3311c35 lp3311c36 lp3311c37 lp3311c38 lp3311c39 lp3311c40 lp3311c41 (by omega) (by omega) (by omega) s3522 s3523 s3524 s3525 s3526 s3527 s3528 s3529 s3530 s3531 s3532 s3533 s3534 s3535 s3536 s3537 s3538 s3539 s3540 s3541 s3542 s3543 s3544 s3545 s3546 s3547 s3548 s3549 s3550 s3551 s3552 s3553 s3554 s3555 s3556 s3557 s3558 s3559 s3560 s3561 s3562 lp3311k41 (Nat.lt_of_lt_of_eq lp3311w0 sh3521.2.1.symm) ((congrFun sh3521.2.2.2.1 x).trans lp3311w1) ((congrFun sh3521.2.2.2.2.1 x).trans lp3311w2) dd3563) (gLw.s (gLw.s (gLw.n (gLw.n (gLw.n gLw.z)))))
set_option maxRecDepth 20000 in
set_option maxHeartbeats 4000000 in
theorem cmlp3168 (d : Nat) {ty : Nat → Nat} {h : gH} (hJ : gJ rT 1027 ty h) (x : Nat) (nx : 1027 ≤ x) (c3 c23 c46 c72 c101 c133 c171 c209 c250 c294 c341 c391 c447 c503 c562 c624 c689 c760 c831 c905 c982 c1065 c1148 c1234 c1323 c1418 c1513 c1611 c1715 c1819 c1926 c2039 c2152 c2268 c2390 c2512 c2637 c2768 c2899 c3033 : Nat) : ∀ (fu : Nat) (ty3170 : Nat → Nat) (h3169 : gH), ((1 : Int)).toNat < fu → gSg [1, 2, 3, 4, 5, 6, 7, 8, 9, 10, 11, 12, 13, 14, 15, 16, 17, 18, 19, 20, 21, 22, 23, 24, 25, 26, 27, 28, 29, 30, 31, 32, 33, 34, 35, 36, 37, 38, 39, 40, 41, 42, 200] [x] [8999, 10999, 31999] ty h ty3170 h3169 → gUq ty3170 → ty3170 x = 200 → ty3170 c3 = 2 → ty3170 c23 = 3 → ty3170 c46 = 4 → ty3170 c72 = 5 → ty3170 c101 = 6 → ty3170 c133 = 7 → ty3170 c171 = 8 → ty3170 c209 = 9 → ty3170 c250 = 10 → ty3170 c294 = 11 → ty3170 c341 = 12 → ty3170 c391 = 13 → ty3170 c447 = 14 → ty3170 c503 = 15 → ty3170 c562 = 16 → ty3170 c624 = 17 → ty3170 c689 = 18 → ty3170 c760 = 19 → ty3170 c831 = 20 → ty3170 c905 = 21 → ty3170 c982 = 22 → ty3170 c1065 = 23 → ty3170 c1148 = 24 → ty3170 c1234 = 25 → ty3170 c1323 = 26 → ty3170 c1418 = 27 → ty3170 c1513 = 28 → ty3170 c1611 = 29 → ty3170 c1715 = 30 → ty3170 c1819 = 31 → ty3170 c1926 = 32 → ty3170 c2039 = 33 → ty3170 c2152 = 34 → ty3170 c2268 = 35 → ty3170 c2390 = 36 → ty3170 c2512 = 37 → ty3170 c2637 = 38 → ty3170 c2768 = 39 → ty3170 c2899 = 40 → ty3170 c3033 = 41 → ((h3169.1 : Int) = h.1 + 40) → ((h3169.2.1 : Int) = h.2.1 + 88588) → h3169.2.2.2.2 x 2 = .ref c3 → h3169.2.2.2.2 x 4 = .ref c23 → h3169.2.2.2.2 x 9 = .ref c46 → h3169.2.2.2.2 x 10 = .ref c72 → h3169.2.2.2.2 x 11 = .ref c101 → h3169.2.2.2.2 x 12 = .ref c133 → h3169.2.2.2.2 x 13 = .ref c171 → h3169.2.2.2.2 x 14 = .ref c209 → h3169.2.2.2.2 x 15 = .ref c250 → h3169.2.2.2.2 x 25 = .ref c294 → h3169.2.2.2.2 x 26 = .ref c341 → h3169.2.2.2.2 x 27 = .ref c391 → h3169.2.2.2.2 x 28 = .ref c447 → h3169.2.2.2.2 x 29 = .ref c503 → h3169.2.2.2.2 x 30 = .ref c562 → h3169.2.2.2.2 x 31 = .ref c624 → h3169.2.2.2.2 x 32 = .ref c689 → h3169.2.2.2.2 x 33 = .ref c760 → h3169.2.2.2.2 x 34 = .ref c831 → h3169.2.2.2.2 x 35 = .ref c905 → h3169.2.2.2.2 x 36 = .ref c982 → h3169.2.2.2.2 x 37 = .ref c1065 → h3169.2.2.2.2 x 38 = .ref c1148 → h3169.2.2.2.2 x 40 = .ref c1234 → h3169.2.2.2.2 x 49 = .ref c1323 → h3169.2.2.2.2 x 54 = .ref c1418 → h3169.2.2.2.2 x 55 = .ref c1513 → h3169.2.2.2.2 x 56 = .ref c1611 → h3169.2.2.2.2 x 57 = .ref c1715 → h3169.2.2.2.2 x 58 = .ref c1819 → h3169.2.2.2.2 x 60 = .ref c1926 → h3169.2.2.2.2 x 63 = .ref c2039 → h3169.2.2.2.2 x 65 = .ref c2152 → h3169.2.2.2.2 x 66 = .ref c2268 → h3169.2.2.2.2 x 68 = .ref c2390 → h3169.2.2.2.2 x 69 = .ref c2512 → h3169.2.2.2.2 x 70 = .ref c2637 → h3169.2.2.2.2 x 71 = .ref c2768 → h3169.2.2.2.2 x 72 = .ref c2899 → h3169.2.2.2.2 x 73 = .ref c3033 → gNo [1, 42] ty3170 → x < h3169.1 → h3169.2.2.1 x = some (.inr 12) → h3169.2.2.2.1 x = 0 → (∀ k, ¬ k ∈ ([73, 72, 71, 70, 69, 68, 66, 65, 63, 60, 58, 57, 56, 55, 54, 49, 40, 38, 37, 36, 35, 34, 33, 32, 31, 30, 29, 28, 27, 26, 25, 15, 14, 13, 12, 11, 10, 9, 4, 2] : List Nat) → h3169.2.2.2.2 x k = defaultValue (gGG.2.1 12 k)) → gz gPP gGG gcn (d + 1) gt130 328 [some (.ref x), none, none, none, none] [] h3169 (fun q _ => ∃ ty9 : Nat → Nat, gSg [1, 2, 3, 4, 5, 6, 7, 8, 9, 10, 11, 12, 13, 14, 15, 16, 17, 18, 19, 20, 21, 22, 23, 24, 25, 26, 27, 28, 29, 30, 31, 32, 33, 34, 35, 36, 37, 38, 39, 40, 41, 42, 200] [x] [8999, 10999, 31999] ty h ty9 q.2.2 ∧ ∃ ip n1 cw ch iv1 : Int, ty9 x = 1 ∧ gfin gt130 q.1 q.2.1 = some none ∧ q.2.2.2.2.2.2 x 16 = .int (zi ip) ∧ 0 ≤ ip ∧ ip ≤ 1 ∧ q.2.2.2.2.2.2 x 53 = .int (zi n1) ∧ 0 ≤ n1 ∧ n1 ≤ 10 ∧ q.2.2.2.2.2.2 x 50 = .int (zi cw) ∧ 0 ≤ cw ∧ cw ≤ 32 ∧ q.2.2.2.2.2.2 x 51 = .int (zi ch) ∧ 0 ≤ ch ∧ ch ≤ 32 ∧ q.2.2.2.2.2.2 x 52 = .int (zi iv1) ∧ 0 ≤ iv1 ∧ iv1 ≤ 100 ∧ (ip = 0) ∧ (n1 = 0) ∧ (cw = 0) ∧ (ch = 0) ∧ (iv1 = 0) ∧ ((q.2.2.1 : Int) = h.1 + 41) ∧ ((q.2.2.2.1 : Int) = h.2.1 + 88652) ∧ (gTs ty9 0 q.2.2) ∧ (gOy ty9 31 (-1) 64 q.2.2) ∧ gUq ty9) := by
  intro fu
  induction fu with
  | zero => intro ty3170 h3169  hm; exact absurd hm (Nat.not_lt_zero _)
  | succ fu ihlp3168 =>
    intro ty3170 h3169  lp3168m lp3168G lp3168u lp3168c0 lp3168c1 lp3168c2 lp3168c3 lp3168c4 lp3168c5 lp3168c6 lp3168c7 lp3168c8 lp3168c9 lp3168c10 lp3168c11 lp3168c12 lp3168c13 lp3168c14 lp3168c15 lp3168c16 lp3168c17 lp3168c18 lp3168c19 lp3168c20 lp3168c21 lp3168c22 lp3168c23 lp3168c24 lp3168c25 lp3168c26 lp3168c27 lp3168c28 lp3168c29 lp3168c30 lp3168c31 lp3168c32 lp3168c33 lp3168c34 lp3168c35 lp3168c36 lp3168c37 lp3168c38 lp3168c39 lp3168c40 lp3168f0 lp3168f1 lp3168k0 lp3168k1 lp3168k2 lp3168k3 lp3168k4 lp3168k5 lp3168k6 lp3168k7 lp3168k8 lp3168k9 lp3168k10 lp3168k11 lp3168k12 lp3168k13 lp3168k14 lp3168k15 lp3168k16 lp3168k17 lp3168k18 lp3168k19 lp3168k20 lp3168k21 lp3168k22 lp3168k23 lp3168k24 lp3168k25 lp3168k26 lp3168k27 lp3168k28 lp3168k29 lp3168k30 lp3168k31 lp3168k32 lp3168k33 lp3168k34 lp3168k35 lp3168k36 lp3168k37 lp3168k38 lp3168k39 lp3168k40 lp3168w0 lp3168w1 lp3168w2 lp3168w3
    have sh3169 : gSs rT 1027 ty3170 [8999, 10999, 31999] h3169 h3169 := gSs.rf lp3168G.1
    refine gz_s 2 (pc' := 331) (L' := [some (.ref x), none, none, none, none]) (S' := [.int (zi 64), .ref x]) rfl ?_
    refine gs_newr 42 rfl (by decide) rfl sh3169.1 (Nat.le_of_lt (Nat.lt_of_le_of_lt (gJ.cell sh3169.1 lp3168c1 rfl).1 (gJ.cell sh3169.1 lp3168c1 rfl).2.1)) (by omega) (by omega) rfl rfl (by show (64 : Int) ≤ _; omega) (by show _ ≤ (64 : Int); omega) (fun _ _ => gos_i (by decide) (by decide)) (fun ty3171 h3172 c3173 g3174 tc3173 lc3173 nc3173 mc3173 ec3173 dc3173 uc3173 => ?_)
    have gac3173 : h.1 ≤ c3173 := by have h8 := lp3168G.2.1; have h9 := sh3169.2.1; omega
    have uq3175 := uc3173 lp3168u (Or.inr (gNo.sub (by decide +kernel) lp3168k40))
    have G3176 : gSg [1, 2, 3, 4, 5, 6, 7, 8, 9, 10, 11, 12, 13, 14, 15, 16, 17, 18, 19, 20, 21, 22, 23, 24, 25, 26, 27, 28, 29, 30, 31, 32, 33, 34, 35, 36, 37, 38, 39, 40, 41, 42, 200] [x] [8999, 10999, 31999] ty h ty3171 h3172 := gSg.tr (gSg.ss lp3168G sh3169 (by decide)) g3174 (by decide) (by decide) (fun x hx => by cases hx)
    have rw3177 := gSg.raw g3174 lp3168w0 (fun w => by cases w)
    have rf3178 := (rw3177.2.2.1.trans lp3168w1)
    have rf3179 := (rw3177.2.2.2.trans lp3168w2)
    have dd3180 := gSg.rawd (ci := 12) (ps := [73, 72, 71, 70, 69, 68, 66, 65, 63, 60, 58, 57, 56, 55, 54, 49, 40, 38, 37, 36, 35, 34, 33, 32, 31, 30, 29, 28, 27, 26, 25, 15, 14, 13, 12, 11, 10, 9, 4, 2]) g3174 lp3168w0 (fun w => by cases w) lp3168c0 (by decide) lp3168w3
    have t3181 : ty3171 x = 200 := rw3177.1.trans lp3168c0
    have t3182 : ty3171 c3 = 2 := gSg.typ g3174 sh3169.1 lp3168c1 rTk_2
    have t3183 : ty3171 c23 = 3 := gSg.typ g3174 sh3169.1 lp3168c2 rTk_3
    have t3184 : ty3171 c46 = 4 := gSg.typ g3174 sh3169.1 lp3168c3 rTk_4
    have t3185 : ty3171 c72 = 5 := gSg.typ g3174 sh3169.1 lp3168c4 rTk_5
    have t3186 : ty3171 c101 = 6 := gSg.typ g3174 sh3169.1 lp3168c5 rTk_6
    have t3187 : ty3171 c133 = 7 := gSg.typ g3174 sh3169.1 lp3168c6 rTk_7
    have t3188 : ty3171 c171 = 8 := gSg.typ g3174 sh3169.1 lp3168c7 rTk_8
    have t3189 : ty3171 c209 = 9 := gSg.typ g3174 sh3169.1 lp3168c8 rTk_9
    have t3190 : ty3171 c250 = 10 := gSg.typ g3174 sh3169.1 lp3168c9 rTk_10
    have t3191 : ty3171 c294 = 11 := gSg.typ g3174 sh3169.1 lp3168c10 rTk_11
    have t3192 : ty3171 c341 = 12 := gSg.typ g3174 sh3169.1 lp3168c11 rTk_12
    have t3193 : ty3171 c391 = 13 := gSg.typ g3174 sh3169.1 lp3168c12 rTk_13
    have t3194 : ty3171 c447 = 14 := gSg.typ g3174 sh3169.1 lp3168c13 rTk_14
    have t3195 : ty3171 c503 = 15 := gSg.typ g3174 sh3169.1 lp3168c14 rTk_15
    have t3196 : ty3171 c562 = 16 := gSg.typ g3174 sh3169.1 lp3168c15 rTk_16
    have t3197 : ty3171 c624 = 17 := gSg.typ g3174 sh3169.1 lp3168c16 rTk_17
    have t3198 : ty3171 c689 = 18 := gSg.typ g3174 sh3169.1 lp3168c17 rTk_18
    have t3199 : ty3171 c760 = 19 := gSg.typ g3174 sh3169.1 lp3168c18 rTk_19
    have t3200 : ty3171 c831 = 20 := gSg.typ g3174 sh3169.1 lp3168c19 rTk_20
    have t3201 : ty3171 c905 = 21 := gSg.typ g3174 sh3169.1 lp3168c20 rTk_21
    have t3202 : ty3171 c982 = 22 := gSg.typ g3174 sh3169.1 lp3168c21 rTk_22
    have t3203 : ty3171 c1065 = 23 := gSg.typ g3174 sh3169.1 lp3168c22 rTk_23
    have t3204 : ty3171 c1148 = 24 := gSg.typ g3174 sh3169.1 lp3168c23 rTk_24
    have t3205 : ty3171 c1234 = 25 := gSg.typ g3174 sh3169.1 lp3168c24 rTk_25
    have t3206 : ty3171 c1323 = 26 := gSg.typ g3174 sh3169.1 lp3168c25 rTk_26
    have t3207 : ty3171 c1418 = 27 := gSg.typ g3174 sh3169.1 lp3168c26 rTk_27
    have t3208 : ty3171 c1513 = 28 := gSg.typ g3174 sh3169.1 lp3168c27 rTk_28
    have t3209 : ty3171 c1611 = 29 := gSg.typ g3174 sh3169.1 lp3168c28 rTk_29
    have t3210 : ty3171 c1715 = 30 := gSg.typ g3174 sh3169.1 lp3168c29 rTk_30
    have t3211 : ty3171 c1819 = 31 := gSg.typ g3174 sh3169.1 lp3168c30 rTk_31
    have t3212 : ty3171 c1926 = 32 := gSg.typ g3174 sh3169.1 lp3168c31 rTk_32
    have t3213 : ty3171 c2039 = 33 := gSg.typ g3174 sh3169.1 lp3168c32 rTk_33
    have t3214 : ty3171 c2152 = 34 := gSg.typ g3174 sh3169.1 lp3168c33 rTk_34
    have t3215 : ty3171 c2268 = 35 := gSg.typ g3174 sh3169.1 lp3168c34 rTk_35
    have t3216 : ty3171 c2390 = 36 := gSg.typ g3174 sh3169.1 lp3168c35 rTk_36
    have t3217 : ty3171 c2512 = 37 := gSg.typ g3174 sh3169.1 lp3168c36 rTk_37
    have t3218 : ty3171 c2637 = 38 := gSg.typ g3174 sh3169.1 lp3168c37 rTk_38
    have t3219 : ty3171 c2768 = 39 := gSg.typ g3174 sh3169.1 lp3168c38 rTk_39
    have t3220 : ty3171 c2899 = 40 := gSg.typ g3174 sh3169.1 lp3168c39 rTk_40
    have t3221 : ty3171 c3033 = 41 := gSg.typ g3174 sh3169.1 lp3168c40 rTk_41
    have s3222 := gSg.rawat g3174 lp3168w0 (fun w => by cases w) lp3168c0 (by decide) lp3168k0
    have s3223 := gSg.rawat g3174 lp3168w0 (fun w => by cases w) lp3168c0 (by decide) lp3168k1
    have s3224 := gSg.rawat g3174 lp3168w0 (fun w => by cases w) lp3168c0 (by decide) lp3168k2
    have s3225 := gSg.rawat g3174 lp3168w0 (fun w => by cases w) lp3168c0 (by decide) lp3168k3
    have s3226 := gSg.rawat g3174 lp3168w0 (fun w => by cases w) lp3168c0 (by decide) lp3168k4
    have s3227 := gSg.rawat g3174 lp3168w0 (fun w => by cases w) lp3168c0 (by decide) lp3168k5
    have s3228 := gSg.rawat g3174 lp3168w0 (fun w => by cases w) lp3168c0 (by decide) lp3168k6
    have s3229 := gSg.rawat g3174 lp3168w0 (fun w => by cases w) lp3168c0 (by decide) lp3168k7
    have s3230 := gSg.rawat g3174 lp3168w0 (fun w => by cases w) lp3168c0 (by decide) lp3168k8
    have s3231 := gSg.rawat g3174 lp3168w0 (fun w => by cases w) lp3168c0 (by decide) lp3168k9
    have s3232 := gSg.rawat g3174 lp3168w0 (fun w => by cases w) lp3168c0 (by decide) lp3168k10
    have s3233 := gSg.rawat g3174 lp3168w0 (fun w => by cases w) lp3168c0 (by decide) lp3168k11
    have s3234 := gSg.rawat g3174 lp3168w0 (fun w => by cases w) lp3168c0 (by decide) lp3168k12
    have s3235 := gSg.rawat g3174 lp3168w0 (fun w => by cases w) lp3168c0 (by decide) lp3168k13
    have s3236 := gSg.rawat g3174 lp3168w0 (fun w => by cases w) lp3168c0 (by decide) lp3168k14
    have s3237 := gSg.rawat g3174 lp3168w0 (fun w => by cases w) lp3168c0 (by decide) lp3168k15
    have s3238 := gSg.rawat g3174 lp3168w0 (fun w => by cases w) lp3168c0 (by decide) lp3168k16
    have s3239 := gSg.rawat g3174 lp3168w0 (fun w => by cases w) lp3168c0 (by decide) lp3168k17
    have s3240 := gSg.rawat g3174 lp3168w0 (fun w => by cases w) lp3168c0 (by decide) lp3168k18
    have s3241 := gSg.rawat g3174 lp3168w0 (fun w => by cases w) lp3168c0 (by decide) lp3168k19
    have s3242 := gSg.rawat g3174 lp3168w0 (fun w => by cases w) lp3168c0 (by decide) lp3168k20
    have s3243 := gSg.rawat g3174 lp3168w0 (fun w => by cases w) lp3168c0 (by decide) lp3168k21
    have s3244 := gSg.rawat g3174 lp3168w0 (fun w => by cases w) lp3168c0 (by decide) lp3168k22
    have s3245 := gSg.rawat g3174 lp3168w0 (fun w => by cases w) lp3168c0 (by decide) lp3168k23
    have s3246 := gSg.rawat g3174 lp3168w0 (fun w => by cases w) lp3168c0 (by decide) lp3168k24
    have s3247 := gSg.rawat g3174 lp3168w0 (fun w => by cases w) lp3168c0 (by decide) lp3168k25
    have s3248 := gSg.rawat g3174 lp3168w0 (fun w => by cases w) lp3168c0 (by decide) lp3168k26
    have s3249 := gSg.rawat g3174 lp3168w0 (fun w => by cases w) lp3168c0 (by decide) lp3168k27
    have s3250 := gSg.rawat g3174 lp3168w0 (fun w => by cases w) lp3168c0 (by decide) lp3168k28
    have s3251 := gSg.rawat g3174 lp3168w0 (fun w => by cases w) lp3168c0 (by decide) lp3168k29
    have s3252 := gSg.rawat g3174 lp3168w0 (fun w => by cases w) lp3168c0 (by decide) lp3168k30
    have s3253 := gSg.rawat g3174 lp3168w0 (fun w => by cases w) lp3168c0 (by decide) lp3168k31
    have s3254 := gSg.rawat g3174 lp3168w0 (fun w => by cases w) lp3168c0 (by decide) lp3168k32
    have s3255 := gSg.rawat g3174 lp3168w0 (fun w => by cases w) lp3168c0 (by decide) lp3168k33
    have s3256 := gSg.rawat g3174 lp3168w0 (fun w => by cases w) lp3168c0 (by decide) lp3168k34
    have s3257 := gSg.rawat g3174 lp3168w0 (fun w => by cases w) lp3168c0 (by decide) lp3168k35
    have s3258 := gSg.rawat g3174 lp3168w0 (fun w => by cases w) lp3168c0 (by decide) lp3168k36
    have s3259 := gSg.rawat g3174 lp3168w0 (fun w => by cases w) lp3168c0 (by decide) lp3168k37
    have s3260 := gSg.rawat g3174 lp3168w0 (fun w => by cases w) lp3168c0 (by decide) lp3168k38
    have s3261 := gSg.rawat g3174 lp3168w0 (fun w => by cases w) lp3168c0 (by decide) lp3168k39
    have pr3262 : gNo [1] ty3171 := gNo.gr g3174 (by decide +kernel) (gNo.sub (by decide +kernel) lp3168k40)
    have sS3263 : gSs rT 1027 ty3171 [8999, 10999, 31999] h3172 h3172 := gSs.rf g3174.1
    refine gs_rput rfl (by decide) rfl sS3263.1 t3181 nx rw3177.2.1 rf3178 rfl (Or.inr rfl) (fun h3264 g3265 nh3264 mh3264 kh3264 zh3264 eh3264 fh3264 => ?_)
    have G3266 : gSg [1, 2, 3, 4, 5, 6, 7, 8, 9, 10, 11, 12, 13, 14, 15, 16, 17, 18, 19, 20, 21, 22, 23, 24, 25, 26, 27, 28, 29, 30, 31, 32, 33, 34, 35, 36, 37, 38, 39, 40, 41, 42, 200] [x] [8999, 10999, 31999] ty h ty3171 h3264 := gSg.tr (gSg.ss G3176 sS3263 (by decide)) g3265 (by decide) (by decide) (fun x hx => Or.inr hx)
    have sS3267 : gSs rT 1027 ty3171 [8999, 10999, 31999] h3264 h3264 := gSs.rf g3265.1
    have rf3268 := Nat.lt_of_lt_of_eq rw3177.2.1 nh3264.symm
    have rf3269 := zh3264.trans rf3179
    have dd3270 : ∀ k, ¬ k ∈ ([76, 73, 72, 71, 70, 69, 68, 66, 65, 63, 60, 58, 57, 56, 55, 54, 49, 40, 38, 37, 36, 35, 34, 33, 32, 31, 30, 29, 28, 27, 26, 25, 15, 14, 13, 12, 11, 10, 9, 4, 2] : List Nat) → h3264.2.2.2.2 x k = defaultValue (gGG.2.1 12 k) := raw_dp fh3264 dd3180
    have s3271 := (fh3264 2 (by decide)).trans s3222
    have s3272 := (fh3264 4 (by decide)).trans s3223
    have s3273 := (fh3264 9 (by decide)).trans s3224
    have s3274 := (fh3264 10 (by decide)).trans s3225
    have s3275 := (fh3264 11 (by decide)).trans s3226
    have s3276 := (fh3264 12 (by decide)).trans s3227
    have s3277 := (fh3264 13 (by decide)).trans s3228
    have s3278 := (fh3264 14 (by decide)).trans s3229
    have s3279 := (fh3264 15 (by decide)).trans s3230
    have s3280 := (fh3264 25 (by decide)).trans s3231
    have s3281 := (fh3264 26 (by decide)).trans s3232
    have s3282 := (fh3264 27 (by decide)).trans s3233
    have s3283 := (fh3264 28 (by decide)).trans s3234
    have s3284 := (fh3264 29 (by decide)).trans s3235
    have s3285 := (fh3264 30 (by decide)).trans s3236
    have s3286 := (fh3264 31 (by decide)).trans s3237
    have s3287 := (fh3264 32 (by decide)).trans s3238
    have s3288 := (fh3264 33 (by decide)).trans s3239
    have s3289 := (fh3264 34 (by decide)).trans s3240
    have s3290 := (fh3264 35 (by decide)).trans s3241
    have s3291 := (fh3264 36 (by decide)).trans s3242
    have s3292 := (fh3264 37 (by decide)).trans s3243
    have s3293 := (fh3264 38 (by decide)).trans s3244
    have s3294 := (fh3264 40 (by decide)).trans s3245
    have s3295 := (fh3264 49 (by decide)).trans s3246
    have s3296 := (fh3264 54 (by decide)).trans s3247
    have s3297 := (fh3264 55 (by decide)).trans s3248
    have s3298 := (fh3264 56 (by decide)).trans s3249
    have s3299 := (fh3264 57 (by decide)).trans s3250
    have s3300 := (fh3264 58 (by decide)).trans s3251
    have s3301 := (fh3264 60 (by decide)).trans s3252
    have s3302 := (fh3264 63 (by decide)).trans s3253
    have s3303 := (fh3264 65 (by decide)).trans s3254
    have s3304 := (fh3264 66 (by decide)).trans s3255
    have s3305 := (fh3264 68 (by decide)).trans s3256
    have s3306 := (fh3264 69 (by decide)).trans s3257
    have s3307 := (fh3264 70 (by decide)).trans s3258
    have s3308 := (fh3264 71 (by decide)).trans s3259
    have s3309 := (fh3264 72 (by decide)).trans s3260
    have s3310 := (fh3264 73 (by decide)).trans s3261
    clear G3176 dd3180 rf3178 rf3179 rw3177 s3222 s3223 s3224 s3225 s3226 s3227 s3228 s3229 s3230 s3231 s3232 s3233 s3234 s3235 s3236 s3237 s3238 s3239 s3240 s3241 s3242 s3243 s3244 s3245 s3246 s3247 s3248 s3249 s3250 s3251 s3252 s3253 s3254 s3255 s3256 s3257 s3258 s3259 s3260 s3261 sS3263
    refine gz_s 2 (pc' := 338) (L' := [some (.ref x), some (.int (zi 0)), none, none, none]) (S' := []) rfl ?_
    have lp3311 := cmlp3311 d hJ x nx c3 c23 c46 c72 c101 c133 c171 c209 c250 c294 c341 c391 c447 c503 c562 c624 c689 c760 c831 c905 c982 c1065 c1148 c1234 c1323 c1418 c1513 c1611 c1715 c1819 c1926 c2039 c2152 c2268 c2390 c2512 c2637 c2768 c2899 c3033 c3173
    have G3567 : gSg [1, 2, 3, 4, 5, 6, 7, 8, 9, 10, 11, 12, 13, 14, 15, 16, 17, 18, 19, 20, 21, 22, 23, 24, 25, 26, 27, 28, 29, 30, 31, 32, 33, 34, 35, 36, 37, 38, 39, 40, 41, 42, 200] [x] [8999, 10999, 31999] ty h ty3171 h3264 := gSg.ss G3266 sS3267 (by decide)
    exact gz_wk (lp3311 _ ty3171 h3264 0 (Nat.lt_succ_self _) G3567 uq3175 t3181 t3182 t3183 t3184 t3185 t3186 t3187 t3188 t3189 t3190 t3191 t3192 t3193 t3194 t3195 t3196 t3197 t3198 t3199 t3200 t3201 t3202 t3203 t3204 t3205 t3206 t3207 t3208 t3209 t3210 t3211 t3212 t3213 t3214 t3215 t3216 t3217 t3218 t3219 t3220 t3221 tc3173 (by omega) (by omega) (by omega) s3271 s3272 s3273 s3274 s3275 s3276 s3277 s3278 s3279 s3280 s3281 s3282 s3283 s3284 s3285 s3286 s3287 s3288 s3289 s3290 s3291 s3292 s3293 s3294 s3295 s3296 s3297 s3298 s3299 s3300 s3301 s3302 s3303 s3304 s3305 s3306 s3307 s3308 s3309 s3310 eh3264 pr3262 rf3268 kh3264 rf3269 dd3270) (gLw.s (gLw.s (gLw.n (gLw.n (gLw.n gLw.z)))))
set_option maxRecDepth 20000 in
set_option maxHeartbeats 4000000 in
theorem cmlp2763 (d : Nat) {ty : Nat → Nat} {h : gH} (hJ : gJ rT 1027 ty h) (x : Nat) (nx : 1027 ≤ x) (c3 c23 c46 c72 c101 c133 c171 c209 c250 c294 c341 c391 c447 c503 c562 c624 c689 c760 c831 c905 c982 c1065 c1148 c1234 c1323 c1418 c1513 c1611 c1715 c1819 c1926 c2039 c2152 c2268 c2390 c2512 c2637 : Nat) : ∀ (fu : Nat) (ty2765 : Nat → Nat) (h2764 : gH), ((1 : Int)).toNat < fu → gSg [1, 2, 3, 4, 5, 6, 7, 8, 9, 10, 11, 12, 13, 14, 15, 16, 17, 18, 19, 20, 21, 22, 23, 24, 25, 26, 27, 28, 29, 30, 31, 32, 33, 34, 35, 36, 37, 38, 39, 40, 41, 42, 200] [x] [8999, 10999, 31999] ty h ty2765 h2764 → gUq ty2765 → ty2765 x = 200 → ty2765 c3 = 2 → ty2765 c23 = 3 → ty2765 c46 = 4 → ty2765 c72 = 5 → ty2765 c101 = 6 → ty2765 c133 = 7 → ty2765 c171 = 8 → ty2765 c209 = 9 → ty2765 c250 = 10 → ty2765 c294 = 11 → ty2765 c341 = 12 → ty2765 c391 = 13 → ty2765 c447 = 14 → ty2765 c503 = 15 → ty2765 c562 = 16 → ty2765 c624 = 17 → ty2765 c689 = 18 → ty2765 c760 = 19 → ty2765 c831 = 20 → ty2765 c905 = 21 → ty2765 c982 = 22 → ty2765 c1065 = 23 → ty2765 c1148 = 24 → ty2765 c1234 = 25 → ty2765 c1323 = 26 → ty2765 c1418 = 27 → ty2765 c1513 = 28 → ty2765 c1611 = 29 → ty2765 c1715 = 30 → ty2765 c1819 = 31 → ty2765 c1926 = 32 → ty2765 c2039 = 33 → ty2765 c2152 = 34 → ty2765 c2268 = 35 → ty2765 c2390 = 36 → ty2765 c2512 = 37 → ty2765 c2637 = 38 → ((h2764.1 : Int) = h.1 + 37) → ((h2764.2.1 : Int) = h.2.1 + 87046) → h2764.2.2.2.2 x 2 = .ref c3 → h2764.2.2.2.2 x 4 = .ref c23 → h2764.2.2.2.2 x 9 = .ref c46 → h2764.2.2.2.2 x 10 = .ref c72 → h2764.2.2.2.2 x 11 = .ref c101 → h2764.2.2.2.2 x 12 = .ref c133 → h2764.2.2.2.2 x 13 = .ref c171 → h2764.2.2.2.2 x 14 = .ref c209 → h2764.2.2.2.2 x 15 = .ref c250 → h2764.2.2.2.2 x 25 = .ref c294 → h2764.2.2.2.2 x 26 = .ref c341 → h2764.2.2.2.2 x 27 = .ref c391 → h2764.2.2.2.2 x 28 = .ref c447 → h2764.2.2.2.2 x 29 = .ref c503 → h2764.2.2.2.2 x 30 = .ref c562 → h2764.2.2.2.2 x 31 = .ref c624 → h2764.2.2.2.2 x 32 = .ref c689 → h2764.2.2.2.2 x 33 = .ref c760 → h2764.2.2.2.2 x 34 = .ref c831 → h2764.2.2.2.2 x 35 = .ref c905 → h2764.2.2.2.2 x 36 = .ref c982 → h2764.2.2.2.2 x 37 = .ref c1065 → h2764.2.2.2.2 x 38 = .ref c1148 → h2764.2.2.2.2 x 40 = .ref c1234 → h2764.2.2.2.2 x 49 = .ref c1323 → h2764.2.2.2.2 x 54 = .ref c1418 → h2764.2.2.2.2 x 55 = .ref c1513 → h2764.2.2.2.2 x 56 = .ref c1611 → h2764.2.2.2.2 x 57 = .ref c1715 → h2764.2.2.2.2 x 58 = .ref c1819 → h2764.2.2.2.2 x 60 = .ref c1926 → h2764.2.2.2.2 x 63 = .ref c2039 → h2764.2.2.2.2 x 65 = .ref c2152 → h2764.2.2.2.2 x 66 = .ref c2268 → h2764.2.2.2.2 x 68 = .ref c2390 → h2764.2.2.2.2 x 69 = .ref c2512 → h2764.2.2.2.2 x 70 = .ref c2637 → gNo [1, 39, 40, 41, 42] ty2765 → x < h2764.1 → h2764.2.2.1 x = some (.inr 12) → h2764.2.2.2.1 x = 0 → (∀ k, ¬ k ∈ ([70, 69, 68, 66, 65, 63, 60, 58, 57, 56, 55, 54, 49, 40, 38, 37, 36, 35, 34, 33, 32, 31, 30, 29, 28, 27, 26, 25, 15, 14, 13, 12, 11, 10, 9, 4, 2] : List Nat) → h2764.2.2.2.2 x k = defaultValue (gGG.2.1 12 k)) → gz gPP gGG gcn (d + 1) gt130 301 [some (.ref x), none, none, none, none] [] h2764 (fun q _ => ∃ ty9 : Nat → Nat, gSg [1, 2, 3, 4, 5, 6, 7, 8, 9, 10, 11, 12, 13, 14, 15, 16, 17, 18, 19, 20, 21, 22, 23, 24, 25, 26, 27, 28, 29, 30, 31, 32, 33, 34, 35, 36, 37, 38, 39, 40, 41, 42, 200] [x] [8999, 10999, 31999] ty h ty9 q.2.2 ∧ ∃ ip n1 cw ch iv1 : Int, ty9 x = 1 ∧ gfin gt130 q.1 q.2.1 = some none ∧ q.2.2.2.2.2.2 x 16 = .int (zi ip) ∧ 0 ≤ ip ∧ ip ≤ 1 ∧ q.2.2.2.2.2.2 x 53 = .int (zi n1) ∧ 0 ≤ n1 ∧ n1 ≤ 10 ∧ q.2.2.2.2.2.2 x 50 = .int (zi cw) ∧ 0 ≤ cw ∧ cw ≤ 32 ∧ q.2.2.2.2.2.2 x 51 = .int (zi ch) ∧ 0 ≤ ch ∧ ch ≤ 32 ∧ q.2.2.2.2.2.2 x 52 = .int (zi iv1) ∧ 0 ≤ iv1 ∧ iv1 ≤ 100 ∧ (ip = 0) ∧ (n1 = 0) ∧ (cw = 0) ∧ (ch = 0) ∧ (iv1 = 0) ∧ ((q.2.2.1 : Int) = h.1 + 41) ∧ ((q.2.2.2.1 : Int) = h.2.1 + 88652) ∧ (gTs ty9 0 q.2.2) ∧ (gOy ty9 31 (-1) 64 q.2.2) ∧ gUq ty9) := by
  intro fu
  induction fu with
  | zero => intro ty2765 h2764  hm; exact absurd hm (Nat.not_lt_zero _)
  | succ fu ihlp2763 =>
    intro ty2765 h2764  lp2763m lp2763G lp2763u lp2763c0 lp2763c1 lp2763c2 lp2763c3 lp2763c4 lp2763c5 lp2763c6 lp2763c7 lp2763c8 lp2763c9 lp2763c10 lp2763c11 lp2763c12 lp2763c13 lp2763c14 lp2763c15 lp2763c16 lp2763c17 lp2763c18 lp2763c19 lp2763c20 lp2763c21 lp2763c22 lp2763c23 lp2763c24 lp2763c25 lp2763c26 lp2763c27 lp2763c28 lp2763c29 lp2763c30 lp2763c31 lp2763c32 lp2763c33 lp2763c34 lp2763c35 lp2763c36 lp2763c37 lp2763f0 lp2763f1 lp2763k0 lp2763k1 lp2763k2 lp2763k3 lp2763k4 lp2763k5 lp2763k6 lp2763k7 lp2763k8 lp2763k9 lp2763k10 lp2763k11 lp2763k12 lp2763k13 lp2763k14 lp2763k15 lp2763k16 lp2763k17 lp2763k18 lp2763k19 lp2763k20 lp2763k21 lp2763k22 lp2763k23 lp2763k24 lp2763k25 lp2763k26 lp2763k27 lp2763k28 lp2763k29 lp2763k30 lp2763k31 lp2763k32 lp2763k33 lp2763k34 lp2763k35 lp2763k36 lp2763k37 lp2763w0 lp2763w1 lp2763w2 lp2763w3
    have sh2764 : gSs rT 1027 ty2765 [8999, 10999, 31999] h2764 h2764 := gSs.rf lp2763G.1
    refine gz_s 2 (pc' := 305) (L' := [some (.ref x), none, none, none, none]) (S' := [.int (zi 514), .ref x]) rfl ?_
    refine gs_newr 39 rfl (by decide) rfl sh2764.1 (Nat.le_of_lt (Nat.lt_of_le_of_lt (gJ.cell sh2764.1 lp2763c1 rfl).1 (gJ.cell sh2764.1 lp2763c1 rfl).2.1)) (by omega) (by omega) rfl rfl (by show (514 : Int) ≤ _; omega) (by show _ ≤ (514 : Int); omega) (fun _ _ => gos_i (by decide) (by decide)) (fun ty2766 h2767 c2768 g2769 tc2768 lc2768 nc2768 mc2768 ec2768 dc2768 uc2768 => ?_)
    have gac2768 : h.1 ≤ c2768 := by have h8 := lp2763G.2.1; have h9 := sh2764.2.1; omega
    have uq2770 := uc2768 lp2763u (Or.inr (gNo.sub (by decide +kernel) lp2763k37))
    have G2771 : gSg [1, 2, 3, 4, 5, 6, 7, 8, 9, 10, 11, 12, 13, 14, 15, 16, 17, 18, 19, 20, 21, 22, 23, 24, 25, 26, 27, 28, 29, 30, 31, 32, 33, 34, 35, 36, 37, 38, 39, 40, 41, 42, 200] [x] [8999, 10999, 31999] ty h ty2766 h2767 := gSg.tr (gSg.ss lp2763G sh2764 (by decide)) g2769 (by decide) (by decide) (fun x hx => by cases hx)
    have rw2772 := gSg.raw g2769 lp2763w0 (fun w => by cases w)
    have rf2773 := (rw2772.2.2.1.trans lp2763w1)
    have rf2774 := (rw2772.2.2.2.trans lp2763w2)
    have dd2775 := gSg.rawd (ci := 12) (ps := [70, 69, 68, 66, 65, 63, 60, 58, 57, 56, 55, 54, 49, 40, 38, 37, 36, 35, 34, 33, 32, 31, 30, 29, 28, 27, 26, 25, 15, 14, 13, 12, 11, 10, 9, 4, 2]) g2769 lp2763w0 (fun w => by cases w) lp2763c0 (by decide) lp2763w3
    have t2776 : ty2766 x = 200 := rw2772.1.trans lp2763c0
    have t2777 : ty2766 c3 = 2 := gSg.typ g2769 sh2764.1 lp2763c1 rTk_2
    have t2778 : ty2766 c23 = 3 := gSg.typ g2769 sh2764.1 lp2763c2 rTk_3
    have t2779 : ty2766 c46 = 4 := gSg.typ g2769 sh2764.1 lp2763c3 rTk_4
    have t2780 : ty2766 c72 = 5 := gSg.typ g2769 sh2764.1 lp2763c4 rTk_5
    have t2781 : ty2766 c101 = 6 := gSg.typ g2769 sh2764.1 lp2763c5 rTk_6
    have t2782 : ty2766 c133 = 7 := gSg.typ g2769 sh2764.1 lp2763c6 rTk_7
    have t2783 : ty2766 c171 = 8 := gSg.typ g2769 sh2764.1 lp2763c7 rTk_8
    have t2784 : ty2766 c209 = 9 := gSg.typ g2769 sh2764.1 lp2763c8 rTk_9
    have t2785 : ty2766 c250 = 10 := gSg.typ g2769 sh2764.1 lp2763c9 rTk_10
    have t2786 : ty2766 c294 = 11 := gSg.typ g2769 sh2764.1 lp2763c10 rTk_11
    have t2787 : ty2766 c341 = 12 := gSg.typ g2769 sh2764.1 lp2763c11 rTk_12
    have t2788 : ty2766 c391 = 13 := gSg.typ g2769 sh2764.1 lp2763c12 rTk_13
    have t2789 : ty2766 c447 = 14 := gSg.typ g2769 sh2764.1 lp2763c13 rTk_14
    have t2790 : ty2766 c503 = 15 := gSg.typ g2769 sh2764.1 lp2763c14 rTk_15
    have t2791 : ty2766 c562 = 16 := gSg.typ g2769 sh2764.1 lp2763c15 rTk_16
    have t2792 : ty2766 c624 = 17 := gSg.typ g2769 sh2764.1 lp2763c16 rTk_17
    have t2793 : ty2766 c689 = 18 := gSg.typ g2769 sh2764.1 lp2763c17 rTk_18
    have t2794 : ty2766 c760 = 19 := gSg.typ g2769 sh2764.1 lp2763c18 rTk_19
    have t2795 : ty2766 c831 = 20 := gSg.typ g2769 sh2764.1 lp2763c19 rTk_20
    have t2796 : ty2766 c905 = 21 := gSg.typ g2769 sh2764.1 lp2763c20 rTk_21
    have t2797 : ty2766 c982 = 22 := gSg.typ g2769 sh2764.1 lp2763c21 rTk_22
    have t2798 : ty2766 c1065 = 23 := gSg.typ g2769 sh2764.1 lp2763c22 rTk_23
    have t2799 : ty2766 c1148 = 24 := gSg.typ g2769 sh2764.1 lp2763c23 rTk_24
    have t2800 : ty2766 c1234 = 25 := gSg.typ g2769 sh2764.1 lp2763c24 rTk_25
    have t2801 : ty2766 c1323 = 26 := gSg.typ g2769 sh2764.1 lp2763c25 rTk_26
    have t2802 : ty2766 c1418 = 27 := gSg.typ g2769 sh2764.1 lp2763c26 rTk_27
    have t2803 : ty2766 c1513 = 28 := gSg.typ g2769 sh2764.1 lp2763c27 rTk_28
    have t2804 : ty2766 c1611 = 29 := gSg.typ g2769 sh2764.1 lp2763c28 rTk_29
    have t2805 : ty2766 c1715 = 30 := gSg.typ g2769 sh2764.1 lp2763c29 rTk_30
    have t2806 : ty2766 c1819 = 31 := gSg.typ g2769 sh2764.1 lp2763c30 rTk_31
    have t2807 : ty2766 c1926 = 32 := gSg.typ g2769 sh2764.1 lp2763c31 rTk_32
    have t2808 : ty2766 c2039 = 33 := gSg.typ g2769 sh2764.1 lp2763c32 rTk_33
    have t2809 : ty2766 c2152 = 34 := gSg.typ g2769 sh2764.1 lp2763c33 rTk_34
    have t2810 : ty2766 c2268 = 35 := gSg.typ g2769 sh2764.1 lp2763c34 rTk_35
    have t2811 : ty2766 c2390 = 36 := gSg.typ g2769 sh2764.1 lp2763c35 rTk_36
    have t2812 : ty2766 c2512 = 37 := gSg.typ g2769 sh2764.1 lp2763c36 rTk_37
    have t2813 : ty2766 c2637 = 38 := gSg.typ g2769 sh2764.1 lp2763c37 rTk_38
    have s2814 := gSg.rawat g2769 lp2763w0 (fun w => by cases w) lp2763c0 (by decide) lp2763k0
    have s2815 := gSg.rawat g2769 lp2763w0 (fun w => by cases w) lp2763c0 (by decide) lp2763k1
    have s2816 := gSg.rawat g2769 lp2763w0 (fun w => by cases w) lp2763c0 (by decide) lp2763k2
    have s2817 := gSg.rawat g2769 lp2763w0 (fun w => by cases w) lp2763c0 (by decide) lp2763k3
    have s2818 := gSg.rawat g2769 lp2763w0 (fun w => by cases w) lp2763c0 (by decide) lp2763k4
    have s2819 := gSg.rawat g2769 lp2763w0 (fun w => by cases w) lp2763c0 (by decide) lp2763k5
    have s2820 := gSg.rawat g2769 lp2763w0 (fun w => by cases w) lp2763c0 (by decide) lp2763k6
    have s2821 := gSg.rawat g2769 lp2763w0 (fun w => by cases w) lp2763c0 (by decide) lp2763k7
    have s2822 := gSg.rawat g2769 lp2763w0 (fun w => by cases w) lp2763c0 (by decide) lp2763k8
    have s2823 := gSg.rawat g2769 lp2763w0 (fun w => by cases w) lp2763c0 (by decide) lp2763k9
    have s2824 := gSg.rawat g2769 lp2763w0 (fun w => by cases w) lp2763c0 (by decide) lp2763k10
    have s2825 := gSg.rawat g2769 lp2763w0 (fun w => by cases w) lp2763c0 (by decide) lp2763k11
    have s2826 := gSg.rawat g2769 lp2763w0 (fun w => by cases w) lp2763c0 (by decide) lp2763k12
    have s2827 := gSg.rawat g2769 lp2763w0 (fun w => by cases w) lp2763c0 (by decide) lp2763k13
    have s2828 := gSg.rawat g2769 lp2763w0 (fun w => by cases w) lp2763c0 (by decide) lp2763k14
    have s2829 := gSg.rawat g2769 lp2763w0 (fun w => by cases w) lp2763c0 (by decide) lp2763k15
    have s2830 := gSg.rawat g2769 lp2763w0 (fun w => by cases w) lp2763c0 (by decide) lp2763k16
    have s2831 := gSg.rawat g2769 lp2763w0 (fun w => by cases w) lp2763c0 (by decide) lp2763k17
    have s2832 := gSg.rawat g2769 lp2763w0 (fun w => by cases w) lp2763c0 (by decide) lp2763k18
    have s2833 := gSg.rawat g2769 lp2763w0 (fun w => by cases w) lp2763c0 (by decide) lp2763k19
    have s2834 := gSg.rawat g2769 lp2763w0 (fun w => by cases w) lp2763c0 (by decide) lp2763k20
    have s2835 := gSg.rawat g2769 lp2763w0 (fun w => by cases w) lp2763c0 (by decide) lp2763k21
    have s2836 := gSg.rawat g2769 lp2763w0 (fun w => by cases w) lp2763c0 (by decide) lp2763k22
    have s2837 := gSg.rawat g2769 lp2763w0 (fun w => by cases w) lp2763c0 (by decide) lp2763k23
    have s2838 := gSg.rawat g2769 lp2763w0 (fun w => by cases w) lp2763c0 (by decide) lp2763k24
    have s2839 := gSg.rawat g2769 lp2763w0 (fun w => by cases w) lp2763c0 (by decide) lp2763k25
    have s2840 := gSg.rawat g2769 lp2763w0 (fun w => by cases w) lp2763c0 (by decide) lp2763k26
    have s2841 := gSg.rawat g2769 lp2763w0 (fun w => by cases w) lp2763c0 (by decide) lp2763k27
    have s2842 := gSg.rawat g2769 lp2763w0 (fun w => by cases w) lp2763c0 (by decide) lp2763k28
    have s2843 := gSg.rawat g2769 lp2763w0 (fun w => by cases w) lp2763c0 (by decide) lp2763k29
    have s2844 := gSg.rawat g2769 lp2763w0 (fun w => by cases w) lp2763c0 (by decide) lp2763k30
    have s2845 := gSg.rawat g2769 lp2763w0 (fun w => by cases w) lp2763c0 (by decide) lp2763k31
    have s2846 := gSg.rawat g2769 lp2763w0 (fun w => by cases w) lp2763c0 (by decide) lp2763k32
    have s2847 := gSg.rawat g2769 lp2763w0 (fun w => by cases w) lp2763c0 (by decide) lp2763k33
    have s2848 := gSg.rawat g2769 lp2763w0 (fun w => by cases w) lp2763c0 (by decide) lp2763k34
    have s2849 := gSg.rawat g2769 lp2763w0 (fun w => by cases w) lp2763c0 (by decide) lp2763k35
    have s2850 := gSg.rawat g2769 lp2763w0 (fun w => by cases w) lp2763c0 (by decide) lp2763k36
    have pr2851 : gNo [1, 40, 41, 42] ty2766 := gNo.gr g2769 (by decide +kernel) (gNo.sub (by decide +kernel) lp2763k37)
    have sS2852 : gSs rT 1027 ty2766 [8999, 10999, 31999] h2767 h2767 := gSs.rf g2769.1
    refine gs_rput rfl (by decide) rfl sS2852.1 t2776 nx rw2772.2.1 rf2773 rfl (Or.inr rfl) (fun h2853 g2854 nh2853 mh2853 kh2853 zh2853 eh2853 fh2853 => ?_)
    have G2855 : gSg [1, 2, 3, 4, 5, 6, 7, 8, 9, 10, 11, 12, 13, 14, 15, 16, 17, 18, 19, 20, 21, 22, 23, 24, 25, 26, 27, 28, 29, 30, 31, 32, 33, 34, 35, 36, 37, 38, 39, 40, 41, 42, 200] [x] [8999, 10999, 31999] ty h ty2766 h2853 := gSg.tr (gSg.ss G2771 sS2852 (by decide)) g2854 (by decide) (by decide) (fun x hx => Or.inr hx)
    have sS2856 : gSs rT 1027 ty2766 [8999, 10999, 31999] h2853 h2853 := gSs.rf g2854.1
    have rf2857 := Nat.lt_of_lt_of_eq rw2772.2.1 nh2853.symm
    have rf2858 := zh2853.trans rf2774
    have dd2859 : ∀ k, ¬ k ∈ ([71, 70, 69, 68, 66, 65, 63, 60, 58, 57, 56, 55, 54, 49, 40, 38, 37, 36, 35, 34, 33, 32, 31, 30, 29, 28, 27, 26, 25, 15, 14, 13, 12, 11, 10, 9, 4, 2] : List Nat) → h2853.2.2.2.2 x k = defaultValue (gGG.2.1 12 k) := raw_dp fh2853 dd2775
    have s2860 := (fh2853 2 (by decide)).trans s2814
    have s2861 := (fh2853 4 (by decide)).trans s2815
    have s2862 := (fh2853 9 (by decide)).trans s2816
    have s2863 := (fh2853 10 (by decide)).trans s2817
    have s2864 := (fh2853 11 (by decide)).trans s2818
    have s2865 := (fh2853 12 (by decide)).trans s2819
    have s2866 := (fh2853 13 (by decide)).trans s2820
    have s2867 := (fh2853 14 (by decide)).trans s2821
    have s2868 := (fh2853 15 (by decide)).trans s2822
    have s2869 := (fh2853 25 (by decide)).trans s2823
    have s2870 := (fh2853 26 (by decide)).trans s2824
    have s2871 := (fh2853 27 (by decide)).trans s2825
    have s2872 := (fh2853 28 (by decide)).trans s2826
    have s2873 := (fh2853 29 (by decide)).trans s2827
    have s2874 := (fh2853 30 (by decide)).trans s2828
    have s2875 := (fh2853 31 (by decide)).trans s2829
    have s2876 := (fh2853 32 (by decide)).trans s2830
    have s2877 := (fh2853 33 (by decide)).trans s2831
    have s2878 := (fh2853 34 (by decide)).trans s2832
    have s2879 := (fh2853 35 (by decide)).trans s2833
    have s2880 := (fh2853 36 (by decide)).trans s2834
    have s2881 := (fh2853 37 (by decide)).trans s2835
    have s2882 := (fh2853 38 (by decide)).trans s2836
    have s2883 := (fh2853 40 (by decide)).trans s2837
    have s2884 := (fh2853 49 (by decide)).trans s2838
    have s2885 := (fh2853 54 (by decide)).trans s2839
    have s2886 := (fh2853 55 (by decide)).trans s2840
    have s2887 := (fh2853 56 (by decide)).trans s2841
    have s2888 := (fh2853 57 (by decide)).trans s2842
    have s2889 := (fh2853 58 (by decide)).trans s2843
    have s2890 := (fh2853 60 (by decide)).trans s2844
    have s2891 := (fh2853 63 (by decide)).trans s2845
    have s2892 := (fh2853 65 (by decide)).trans s2846
    have s2893 := (fh2853 66 (by decide)).trans s2847
    have s2894 := (fh2853 68 (by decide)).trans s2848
    have s2895 := (fh2853 69 (by decide)).trans s2849
    have s2896 := (fh2853 70 (by decide)).trans s2850
    clear G2771 dd2775 rf2773 rf2774 rw2772 s2814 s2815 s2816 s2817 s2818 s2819 s2820 s2821 s2822 s2823 s2824 s2825 s2826 s2827 s2828 s2829 s2830 s2831 s2832 s2833 s2834 s2835 s2836 s2837 s2838 s2839 s2840 s2841 s2842 s2843 s2844 s2845 s2846 s2847 s2848 s2849 s2850 sS2852
    refine gz_s 2 (pc' := 314) (L' := [some (.ref x), none, none, none, none]) (S' := [.int (zi 514), .ref x]) rfl ?_
    refine gs_newr 40 rfl (by decide) rfl sS2856.1 (Nat.le_of_lt (Nat.lt_of_le_of_lt (gJ.cell sS2856.1 t2777 rfl).1 (gJ.cell sS2856.1 t2777 rfl).2.1)) (by omega) (by omega) rfl rfl (by show (514 : Int) ≤ _; omega) (by show _ ≤ (514 : Int); omega) (fun _ _ => gos_i (by decide) (by decide)) (fun ty2897 h2898 c2899 g2900 tc2899 lc2899 nc2899 mc2899 ec2899 dc2899 uc2899 => ?_)
    have gac2899 : h.1 ≤ c2899 := by have h8 := G2855.2.1; have h9 := sS2856.2.1; omega
    have uq2901 := uc2899 uq2770 (Or.inr (gNo.sub (by decide +kernel) pr2851))
    have G2902 : gSg [1, 2, 3, 4, 5, 6, 7, 8, 9, 10, 11, 12, 13, 14, 15, 16, 17, 18, 19, 20, 21, 22, 23, 24, 25, 26, 27, 28, 29, 30, 31, 32, 33, 34, 35, 36, 37, 38, 39, 40, 41, 42, 200] [x] [8999, 10999, 31999] ty h ty2897 h2898 := gSg.tr (gSg.ss G2855 sS2856 (by decide)) g2900 (by decide) (by decide) (fun x hx => by cases hx)
    have rw2903 := gSg.raw g2900 rf2857 (fun w => by cases w)
    have rf2904 := (rw2903.2.2.1.trans kh2853)
    have rf2905 := (rw2903.2.2.2.trans rf2858)
    have dd2906 := gSg.rawd (ci := 12) (ps := [71, 70, 69, 68, 66, 65, 63, 60, 58, 57, 56, 55, 54, 49, 40, 38, 37, 36, 35, 34, 33, 32, 31, 30, 29, 28, 27, 26, 25, 15, 14, 13, 12, 11, 10, 9, 4, 2]) g2900 rf2857 (fun w => by cases w) t2776 (by decide) dd2859
    have t2907 : ty2897 x = 200 := rw2903.1.trans t2776
    have t2908 : ty2897 c3 = 2 := gSg.typ g2900 sS2856.1 t2777 rTk_2
    have t2909 : ty2897 c23 = 3 := gSg.typ g2900 sS2856.1 t2778 rTk_3
    have t2910 : ty2897 c46 = 4 := gSg.typ g2900 sS2856.1 t2779 rTk_4
    have t2911 : ty2897 c72 = 5 := gSg.typ g2900 sS2856.1 t2780 rTk_5
    have t2912 : ty2897 c101 = 6 := gSg.typ g2900 sS2856.1 t2781 rTk_6
    have t2913 : ty2897 c133 = 7 := gSg.typ g2900 sS2856.1 t2782 rTk_7
    have t2914 : ty2897 c171 = 8 := gSg.typ g2900 sS2856.1 t2783 rTk_8
    have t2915 : ty2897 c209 = 9 := gSg.typ g2900 sS2856.1 t2784 rTk_9
    have t2916 : ty2897 c250 = 10 := gSg.typ g2900 sS2856.1 t2785 rTk_10
    have t2917 : ty2897 c294 = 11 := gSg.typ g2900 sS2856.1 t2786 rTk_11
    have t2918 : ty2897 c341 = 12 := gSg.typ g2900 sS2856.1 t2787 rTk_12
    have t2919 : ty2897 c391 = 13 := gSg.typ g2900 sS2856.1 t2788 rTk_13
    have t2920 : ty2897 c447 = 14 := gSg.typ g2900 sS2856.1 t2789 rTk_14
    have t2921 : ty2897 c503 = 15 := gSg.typ g2900 sS2856.1 t2790 rTk_15
    have t2922 : ty2897 c562 = 16 := gSg.typ g2900 sS2856.1 t2791 rTk_16
    have t2923 : ty2897 c624 = 17 := gSg.typ g2900 sS2856.1 t2792 rTk_17
    have t2924 : ty2897 c689 = 18 := gSg.typ g2900 sS2856.1 t2793 rTk_18
    have t2925 : ty2897 c760 = 19 := gSg.typ g2900 sS2856.1 t2794 rTk_19
    have t2926 : ty2897 c831 = 20 := gSg.typ g2900 sS2856.1 t2795 rTk_20
    have t2927 : ty2897 c905 = 21 := gSg.typ g2900 sS2856.1 t2796 rTk_21
    have t2928 : ty2897 c982 = 22 := gSg.typ g2900 sS2856.1 t2797 rTk_22
    have t2929 : ty2897 c1065 = 23 := gSg.typ g2900 sS2856.1 t2798 rTk_23
    have t2930 : ty2897 c1148 = 24 := gSg.typ g2900 sS2856.1 t2799 rTk_24
    have t2931 : ty2897 c1234 = 25 := gSg.typ g2900 sS2856.1 t2800 rTk_25
    have t2932 : ty2897 c1323 = 26 := gSg.typ g2900 sS2856.1 t2801 rTk_26
    have t2933 : ty2897 c1418 = 27 := gSg.typ g2900 sS2856.1 t2802 rTk_27
    have t2934 : ty2897 c1513 = 28 := gSg.typ g2900 sS2856.1 t2803 rTk_28
    have t2935 : ty2897 c1611 = 29 := gSg.typ g2900 sS2856.1 t2804 rTk_29
    have t2936 : ty2897 c1715 = 30 := gSg.typ g2900 sS2856.1 t2805 rTk_30
    have t2937 : ty2897 c1819 = 31 := gSg.typ g2900 sS2856.1 t2806 rTk_31
    have t2938 : ty2897 c1926 = 32 := gSg.typ g2900 sS2856.1 t2807 rTk_32
    have t2939 : ty2897 c2039 = 33 := gSg.typ g2900 sS2856.1 t2808 rTk_33
    have t2940 : ty2897 c2152 = 34 := gSg.typ g2900 sS2856.1 t2809 rTk_34
    have t2941 : ty2897 c2268 = 35 := gSg.typ g2900 sS2856.1 t2810 rTk_35
    have t2942 : ty2897 c2390 = 36 := gSg.typ g2900 sS2856.1 t2811 rTk_36
    have t2943 : ty2897 c2512 = 37 := gSg.typ g2900 sS2856.1 t2812 rTk_37
    have t2944 : ty2897 c2637 = 38 := gSg.typ g2900 sS2856.1 t2813 rTk_38
    have t2945 : ty2897 c2768 = 39 := gSg.typ g2900 sS2856.1 tc2768 rTk_39
    have s2946 := gSg.rawat g2900 rf2857 (fun w => by cases w) t2776 (by decide) s2860
    have s2947 := gSg.rawat g2900 rf2857 (fun w => by cases w) t2776 (by decide) s2861
    have s2948 := gSg.rawat g2900 rf2857 (fun w => by cases w) t2776 (by decide) s2862
    have s2949 := gSg.rawat g2900 rf2857 (fun w => by cases w) t2776 (by decide) s2863
    have s2950 := gSg.rawat g2900 rf2857 (fun w => by cases w) t2776 (by decide) s2864
    have s2951 := gSg.rawat g2900 rf2857 (fun w => by cases w) t2776 (by decide) s2865
    have s2952 := gSg.rawat g2900 rf2857 (fun w => by cases w) t2776 (by decide) s2866
    have s2953 := gSg.rawat g2900 rf2857 (fun w => by cases w) t2776 (by decide) s2867
    have s2954 := gSg.rawat g2900 rf2857 (fun w => by cases w) t2776 (by decide) s2868
    have s2955 := gSg.rawat g2900 rf2857 (fun w => by cases w) t2776 (by decide) s2869
    have s2956 := gSg.rawat g2900 rf2857 (fun w => by cases w) t2776 (by decide) s2870
    have s2957 := gSg.rawat g2900 rf2857 (fun w => by cases w) t2776 (by decide) s2871
    have s2958 := gSg.rawat g2900 rf2857 (fun w => by cases w) t2776 (by decide) s2872
    have s2959 := gSg.rawat g2900 rf2857 (fun w => by cases w) t2776 (by decide) s2873
    have s2960 := gSg.rawat g2900 rf2857 (fun w => by cases w) t2776 (by decide) s2874
    have s2961 := gSg.rawat g2900 rf2857 (fun w => by cases w) t2776 (by decide) s2875
    have s2962 := gSg.rawat g2900 rf2857 (fun w => by cases w) t2776 (by decide) s2876
    have s2963 := gSg.rawat g2900 rf2857 (fun w => by cases w) t2776 (by decide) s2877
    have s2964 := gSg.rawat g2900 rf2857 (fun w => by cases w) t2776 (by decide) s2878
    have s2965 := gSg.rawat g2900 rf2857 (fun w => by cases w) t2776 (by decide) s2879
    have s2966 := gSg.rawat g2900 rf2857 (fun w => by cases w) t2776 (by decide) s2880
    have s2967 := gSg.rawat g2900 rf2857 (fun w => by cases w) t2776 (by decide) s2881
    have s2968 := gSg.rawat g2900 rf2857 (fun w => by cases w) t2776 (by decide) s2882
    have s2969 := gSg.rawat g2900 rf2857 (fun w => by cases w) t2776 (by decide) s2883
    have s2970 := gSg.rawat g2900 rf2857 (fun w => by cases w) t2776 (by decide) s2884
    have s2971 := gSg.rawat g2900 rf2857 (fun w => by cases w) t2776 (by decide) s2885
    have s2972 := gSg.rawat g2900 rf2857 (fun w => by cases w) t2776 (by decide) s2886
    have s2973 := gSg.rawat g2900 rf2857 (fun w => by cases w) t2776 (by decide) s2887
    have s2974 := gSg.rawat g2900 rf2857 (fun w => by cases w) t2776 (by decide) s2888
    have s2975 := gSg.rawat g2900 rf2857 (fun w => by cases w) t2776 (by decide) s2889
    have s2976 := gSg.rawat g2900 rf2857 (fun w => by cases w) t2776 (by decide) s2890
    have s2977 := gSg.rawat g2900 rf2857 (fun w => by cases w) t2776 (by decide) s2891
    have s2978 := gSg.rawat g2900 rf2857 (fun w => by cases w) t2776 (by decide) s2892
    have s2979 := gSg.rawat g2900 rf2857 (fun w => by cases w) t2776 (by decide) s2893
    have s2980 := gSg.rawat g2900 rf2857 (fun w => by cases w) t2776 (by decide) s2894
    have s2981 := gSg.rawat g2900 rf2857 (fun w => by cases w) t2776 (by decide) s2895
    have s2982 := gSg.rawat g2900 rf2857 (fun w => by cases w) t2776 (by decide) s2896
    have s2983 := gSg.rawat g2900 rf2857 (fun w => by cases w) t2776 (by decide) eh2853
    have pr2984 : gNo [1, 41, 42] ty2897 := gNo.gr g2900 (by decide +kernel) (gNo.sub (by decide +kernel) pr2851)
    have sS2985 : gSs rT 1027 ty2897 [8999, 10999, 31999] h2898 h2898 := gSs.rf g2900.1
    clear G2855 dd2859 pr2851 rf2857 rf2858 s2860 s2861 s2862 s2863 s2864 s2865 s2866 s2867 s2868 s2869 s2870 s2871 s2872 s2873 s2874 s2875 s2876 s2877 s2878 s2879 s2880 s2881 s2882 s2883 s2884 s2885 s2886 s2887 s2888 s2889 s2890 s2891 s2892 s2893 s2894 s2895 s2896 sS2856 t2776 t2777 t2778 t2779 t2780 t2781 t2782 t2783 t2784 t2785 t2786 t2787 t2788 t2789 t2790 t2791 t2792 t2793 t2794 t2795 t2796 t2797 t2798 t2799 t2800 t2801 t2802 t2803 t2804 t2805 t2806 t2807 t2808 t2809 t2810 t2811 t2812 t2813 uq2770
    refine gs_rput rfl (by decide) rfl sS2985.1 t2907 nx rw2903.2.1 rf2904 rfl (Or.inr rfl) (fun h2986 g2987 nh2986 mh2986 kh2986 zh2986 eh2986 fh2986 => ?_)
    have G2988 : gSg [1, 2, 3, 4, 5, 6, 7, 8, 9, 10, 11, 12, 13, 14, 15, 16, 17, 18, 19, 20, 21, 22, 23, 24, 25, 26, 27, 28, 29, 30, 31, 32, 33, 34, 35, 36, 37, 38, 39, 40, 41, 42, 200] [x] [8999, 10999, 31999] ty h ty2897 h2986 := gSg.tr (gSg.ss G2902 sS2985 (by decide)) g2987 (by decide) (by decide) (fun x hx => Or.inr hx)
    have sS2989 : gSs rT 1027 ty2897 [8999, 10999, 31999] h2986 h2986 := gSs.rf g2987.1
    have rf2990 := Nat.lt_of_lt_of_eq rw2903.2.1 nh2986.symm
    have rf2991 := zh2986.trans rf2905
    have dd2992 : ∀ k, ¬ k ∈ ([72, 71, 70, 69, 68, 66, 65, 63, 60, 58, 57, 56, 55, 54, 49, 40, 38, 37, 36, 35, 34, 33, 32, 31, 30, 29, 28, 27, 26, 25, 15, 14, 13, 12, 11, 10, 9, 4, 2] : List Nat) → h2986.2.2.2.2 x k = defaultValue (gGG.2.1 12 k) := raw_dp fh2986 dd2906
    have s2993 := (fh2986 2 (by decide)).trans s2946
    have s2994 := (fh2986 4 (by decide)).trans s2947
    have s2995 := (fh2986 9 (by decide)).trans s2948
    have s2996 := (fh2986 10 (by decide)).trans s2949
    have s2997 := (fh2986 11 (by decide)).trans s2950
    have s2998 := (fh2986 12 (by decide)).trans s2951
    have s2999 := (fh2986 13 (by decide)).trans s2952
    have s3000 := (fh2986 14 (by decide)).trans s2953
    have s3001 := (fh2986 15 (by decide)).trans s2954
    have s3002 := (fh2986 25 (by decide)).trans s2955
    have s3003 := (fh2986 26 (by decide)).trans s2956
    have s3004 := (fh2986 27 (by decide)).trans s2957
    have s3005 := (fh2986 28 (by decide)).trans s2958
    have s3006 := (fh2986 29 (by decide)).trans s2959
    have s3007 := (fh2986 30 (by decide)).trans s2960
    have s3008 := (fh2986 31 (by decide)).trans s2961
    have s3009 := (fh2986 32 (by decide)).trans s2962
    have s3010 := (fh2986 33 (by decide)).trans s2963
    have s3011 := (fh2986 34 (by decide)).trans s2964
    have s3012 := (fh2986 35 (by decide)).trans s2965
    have s3013 := (fh2986 36 (by decide)).trans s2966
    have s3014 := (fh2986 37 (by decide)).trans s2967
    have s3015 := (fh2986 38 (by decide)).trans s2968
    have s3016 := (fh2986 40 (by decide)).trans s2969
    have s3017 := (fh2986 49 (by decide)).trans s2970
    have s3018 := (fh2986 54 (by decide)).trans s2971
    have s3019 := (fh2986 55 (by decide)).trans s2972
    have s3020 := (fh2986 56 (by decide)).trans s2973
    have s3021 := (fh2986 57 (by decide)).trans s2974
    have s3022 := (fh2986 58 (by decide)).trans s2975
    have s3023 := (fh2986 60 (by decide)).trans s2976
    have s3024 := (fh2986 63 (by decide)).trans s2977
    have s3025 := (fh2986 65 (by decide)).trans s2978
    have s3026 := (fh2986 66 (by decide)).trans s2979
    have s3027 := (fh2986 68 (by decide)).trans s2980
    have s3028 := (fh2986 69 (by decide)).trans s2981
    have s3029 := (fh2986 70 (by decide)).trans s2982
    have s3030 := (fh2986 71 (by decide)).trans s2983
    clear G2902 dd2906 rf2904 rf2905 rw2903 s2946 s2947 s2948 s2949 s2950 s2951 s2952 s2953 s2954 s2955 s2956 s2957 s2958 s2959 s2960 s2961 s2962 s2963 s2964 s2965 s2966 s2967 s2968 s2969 s2970 s2971 s2972 s2973 s2974 s2975 s2976 s2977 s2978 s2979 s2980 s2981 s2982 s2983 sS2985
    refine gz_s 2 (pc' := 323) (L' := [some (.ref x), none, none, none, none]) (S' := [.int (zi 514), .ref x]) rfl ?_
    refine gs_newr 41 rfl (by decide) rfl sS2989.1 (Nat.le_of_lt (Nat.lt_of_le_of_lt (gJ.cell sS2989.1 t2908 rfl).1 (gJ.cell sS2989.1 t2908 rfl).2.1)) (by omega) (by omega) rfl rfl (by show (514 : Int) ≤ _; omega) (by show _ ≤ (514 : Int); omega) (fun _ _ => gos_i (by decide) (by decide)) (fun ty3031 h3032 c3033 g3034 tc3033 lc3033 nc3033 mc3033 ec3033 dc3033 uc3033 => ?_)
    have gac3033 : h.1 ≤ c3033 := by have h8 := G2988.2.1; have h9 := sS2989.2.1; omega
    have uq3035 := uc3033 uq2901 (Or.inr (gNo.sub (by decide +kernel) pr2984))
    have G3036 : gSg [1, 2, 3, 4, 5, 6, 7, 8, 9, 10, 11, 12, 13, 14, 15, 16, 17, 18, 19, 20, 21, 22, 23, 24, 25, 26, 27, 28, 29, 30, 31, 32, 33, 34, 35, 36, 37, 38, 39, 40, 41, 42, 200] [x] [8999, 10999, 31999] ty h ty3031 h3032 := gSg.tr (gSg.ss G2988 sS2989 (by decide)) g3034 (by decide) (by decide) (fun x hx => by cases hx)
    have rw3037 := gSg.raw g3034 rf2990 (fun w => by cases w)
    have rf3038 := (rw3037.2.2.1.trans kh2986)
    have rf3039 := (rw3037.2.2.2.trans rf2991)
    have dd3040 := gSg.rawd (ci := 12) (ps := [72, 71, 70, 69, 68, 66, 65, 63, 60, 58, 57, 56, 55, 54, 49, 40, 38, 37, 36, 35, 34, 33, 32, 31, 30, 29, 28, 27, 26, 25, 15, 14, 13, 12, 11, 10, 9, 4, 2]) g3034 rf2990 (fun w => by cases w) t2907 (by decide) dd2992
    have t3041 : ty3031 x = 200 := rw3037.1.trans t2907
    have t3042 : ty3031 c3 = 2 := gSg.typ g3034 sS2989.1 t2908 rTk_2
    have t3043 : ty3031 c23 = 3 := gSg.typ g3034 sS2989.1 t2909 rTk_3
    have t3044 : ty3031 c46 = 4 := gSg.typ g3034 sS2989.1 t2910 rTk_4
    have t3045 : ty3031 c72 = 5 := gSg.typ g3034 sS2989.1 t2911 rTk_5
    have t3046 : ty3031 c101 = 6 := gSg.typ g3034 sS2989.1 t2912 rTk_6
    have t3047 : ty3031 c133 = 7 := gSg.typ g3034 sS2989.1 t2913 rTk_7
    have t3048 : ty3031 c171 = 8 := gSg.typ g3034 sS2989.1 t2914 rTk_8
    have t3049 : ty3031 c209 = 9 := gSg.typ g3034 sS2989.1 t2915 rTk_9
    have t3050 : ty3031 c250 = 10 := gSg.typ g3034 sS2989.1 t2916 rTk_10
    have t3051 : ty3031 c294 = 11 := gSg.typ g3034 sS2989.1 t2917 rTk_11
    have t3052 : ty3031 c341 = 12 := gSg.typ g3034 sS2989.1 t2918 rTk_12
    have t3053 : ty3031 c391 = 13 := gSg.typ g3034 sS2989.1 t2919 rTk_13
    have t3054 : ty3031 c447 = 14 := gSg.typ g3034 sS2989.1 t2920 rTk_14
    have t3055 : ty3031 c503 = 15 := gSg.typ g3034 sS2989.1 t2921 rTk_15
    have t3056 : ty3031 c562 = 16 := gSg.typ g3034 sS2989.1 t2922 rTk_16
    have t3057 : ty3031 c624 = 17 := gSg.typ g3034 sS2989.1 t2923 rTk_17
    have t3058 : ty3031 c689 = 18 := gSg.typ g3034 sS2989.1 t2924 rTk_18
    have t3059 : ty3031 c760 = 19 := gSg.typ g3034 sS2989.1 t2925 rTk_19
    have t3060 : ty3031 c831 = 20 := gSg.typ g3034 sS2989.1 t2926 rTk_20
    have t3061 : ty3031 c905 = 21 := gSg.typ g3034 sS2989.1 t2927 rTk_21
    have t3062 : ty3031 c982 = 22 := gSg.typ g3034 sS2989.1 t2928 rTk_22
    have t3063 : ty3031 c1065 = 23 := gSg.typ g3034 sS2989.1 t2929 rTk_23
    have t3064 : ty3031 c1148 = 24 := gSg.typ g3034 sS2989.1 t2930 rTk_24
    have t3065 : ty3031 c1234 = 25 := gSg.typ g3034 sS2989.1 t2931 rTk_25
    have t3066 : ty3031 c1323 = 26 := gSg.typ g3034 sS2989.1 t2932 rTk_26
    have t3067 : ty3031 c1418 = 27 := gSg.typ g3034 sS2989.1 t2933 rTk_27
    have t3068 : ty3031 c1513 = 28 := gSg.typ g3034 sS2989.1 t2934 rTk_28
    have t3069 : ty3031 c1611 = 29 := gSg.typ g3034 sS2989.1 t2935 rTk_29
    have t3070 : ty3031 c1715 = 30 := gSg.typ g3034 sS2989.1 t2936 rTk_30
    have t3071 : ty3031 c1819 = 31 := gSg.typ g3034 sS2989.1 t2937 rTk_31
    have t3072 : ty3031 c1926 = 32 := gSg.typ g3034 sS2989.1 t2938 rTk_32
    have t3073 : ty3031 c2039 = 33 := gSg.typ g3034 sS2989.1 t2939 rTk_33
    have t3074 : ty3031 c2152 = 34 := gSg.typ g3034 sS2989.1 t2940 rTk_34
    have t3075 : ty3031 c2268 = 35 := gSg.typ g3034 sS2989.1 t2941 rTk_35
    have t3076 : ty3031 c2390 = 36 := gSg.typ g3034 sS2989.1 t2942 rTk_36
    have t3077 : ty3031 c2512 = 37 := gSg.typ g3034 sS2989.1 t2943 rTk_37
    have t3078 : ty3031 c2637 = 38 := gSg.typ g3034 sS2989.1 t2944 rTk_38
    have t3079 : ty3031 c2768 = 39 := gSg.typ g3034 sS2989.1 t2945 rTk_39
    have t3080 : ty3031 c2899 = 40 := gSg.typ g3034 sS2989.1 tc2899 rTk_40
    have s3081 := gSg.rawat g3034 rf2990 (fun w => by cases w) t2907 (by decide) s2993
    have s3082 := gSg.rawat g3034 rf2990 (fun w => by cases w) t2907 (by decide) s2994
    have s3083 := gSg.rawat g3034 rf2990 (fun w => by cases w) t2907 (by decide) s2995
    have s3084 := gSg.rawat g3034 rf2990 (fun w => by cases w) t2907 (by decide) s2996
    have s3085 := gSg.rawat g3034 rf2990 (fun w => by cases w) t2907 (by decide) s2997
    have s3086 := gSg.rawat g3034 rf2990 (fun w => by cases w) t2907 (by decide) s2998
    have s3087 := gSg.rawat g3034 rf2990 (fun w => by cases w) t2907 (by decide) s2999
    have s3088 := gSg.rawat g3034 rf2990 (fun w => by cases w) t2907 (by decide) s3000
    have s3089 := gSg.rawat g3034 rf2990 (fun w => by cases w) t2907 (by decide) s3001
    have s3090 := gSg.rawat g3034 rf2990 (fun w => by cases w) t2907 (by decide) s3002
    have s3091 := gSg.rawat g3034 rf2990 (fun w => by cases w) t2907 (by decide) s3003
    have s3092 := gSg.rawat g3034 rf2990 (fun w => by cases w) t2907 (by decide) s3004
    have s3093 := gSg.rawat g3034 rf2990 (fun w => by cases w) t2907 (by decide) s3005
    have s3094 := gSg.rawat g3034 rf2990 (fun w => by cases w) t2907 (by decide) s3006
    have s3095 := gSg.rawat g3034 rf2990 (fun w => by cases w) t2907 (by decide) s3007
    have s3096 := gSg.rawat g3034 rf2990 (fun w => by cases w) t2907 (by decide) s3008
    have s3097 := gSg.rawat g3034 rf2990 (fun w => by cases w) t2907 (by decide) s3009
    have s3098 := gSg.rawat g3034 rf2990 (fun w => by cases w) t2907 (by decide) s3010
    have s3099 := gSg.rawat g3034 rf2990 (fun w => by cases w) t2907 (by decide) s3011
    have s3100 := gSg.rawat g3034 rf2990 (fun w => by cases w) t2907 (by decide) s3012
    have s3101 := gSg.rawat g3034 rf2990 (fun w => by cases w) t2907 (by decide) s3013
    have s3102 := gSg.rawat g3034 rf2990 (fun w => by cases w) t2907 (by decide) s3014
    have s3103 := gSg.rawat g3034 rf2990 (fun w => by cases w) t2907 (by decide) s3015
    have s3104 := gSg.rawat g3034 rf2990 (fun w => by cases w) t2907 (by decide) s3016
    have s3105 := gSg.rawat g3034 rf2990 (fun w => by cases w) t2907 (by decide) s3017
    have s3106 := gSg.rawat g3034 rf2990 (fun w => by cases w) t2907 (by decide) s3018
    have s3107 := gSg.rawat g3034 rf2990 (fun w => by cases w) t2907 (by decide) s3019
    have s3108 := gSg.rawat g3034 rf2990 (fun w => by cases w) t2907 (by decide) s3020
    have s3109 := gSg.rawat g3034 rf2990 (fun w => by cases w) t2907 (by decide) s3021
    have s3110 := gSg.rawat g3034 rf2990 (fun w => by cases w) t2907 (by decide) s3022
    have s3111 := gSg.rawat g3034 rf2990 (fun w => by cases w) t2907 (by decide) s3023
    have s3112 := gSg.rawat g3034 rf2990 (fun w => by cases w) t2907 (by decide) s3024
    have s3113 := gSg.rawat g3034 rf2990 (fun w => by cases w) t2907 (by decide) s3025
    have s3114 := gSg.rawat g3034 rf2990 (fun w => by cases w) t2907 (by decide) s3026
    have s3115 := gSg.rawat g3034 rf2990 (fun w => by cases w) t2907 (by decide) s3027
    have s3116 := gSg.rawat g3034 rf2990 (fun w => by cases w) t2907 (by decide) s3028
    have s3117 := gSg.rawat g3034 rf2990 (fun w => by cases w) t2907 (by decide) s3029
    have s3118 := gSg.rawat g3034 rf2990 (fun w => by cases w) t2907 (by decide) s3030
    have s3119 := gSg.rawat g3034 rf2990 (fun w => by cases w) t2907 (by decide) eh2986
    have pr3120 : gNo [1, 42] ty3031 := gNo.gr g3034 (by decide +kernel) (gNo.sub (by decide +kernel) pr2984)
    have sS3121 : gSs rT 1027 ty3031 [8999, 10999, 31999] h3032 h3032 := gSs.rf g3034.1
    clear G2988 dd2992 pr2984 rf2990 rf2991 s2993 s2994 s2995 s2996 s2997 s2998 s2999 s3000 s3001 s3002 s3003 s3004 s3005 s3006 s3007 s3008 s3009 s3010 s3011 s3012 s3013 s3014 s3015 s3016 s3017 s3018 s3019 s3020 s3021 s3022 s3023 s3024 s3025 s3026 s3027 s3028 s3029 s3030 sS2989 t2907 t2908 t2909 t2910 t2911 t2912 t2913 t2914 t2915 t2916 t2917 t2918 t2919 t2920 t2921 t2922 t2923 t2924 t2925 t2926 t2927 t2928 t2929 t2930 t2931 t2932 t2933 t2934 t2935 t2936 t2937 t2938 t2939 t2940 t2941 t2942 t2943 t2944 t2945 uq2901
    refine gs_rput rfl (by decide) rfl sS3121.1 t3041 nx rw3037.2.1 rf3038 rfl (Or.inr rfl) (fun h3122 g3123 nh3122 mh3122 kh3122 zh3122 eh3122 fh3122 => ?_)
    have G3124 : gSg [1, 2, 3, 4, 5, 6, 7, 8, 9, 10, 11, 12, 13, 14, 15, 16, 17, 18, 19, 20, 21, 22, 23, 24, 25, 26, 27, 28, 29, 30, 31, 32, 33, 34, 35, 36, 37, 38, 39, 40, 41, 42, 200] [x] [8999, 10999, 31999] ty h ty3031 h3122 := gSg.tr (gSg.ss G3036 sS3121 (by decide)) g3123 (by decide) (by decide) (fun x hx => Or.inr hx)
    have sS3125 : gSs rT 1027 ty3031 [8999, 10999, 31999] h3122 h3122 := gSs.rf g3123.1
    have rf3126 := Nat.lt_of_lt_of_eq rw3037.2.1 nh3122.symm
    have rf3127 := zh3122.trans rf3039
    have dd3128 : ∀ k, ¬ k ∈ ([73, 72, 71, 70, 69, 68, 66, 65, 63, 60, 58, 57, 56, 55, 54, 49, 40, 38, 37, 36, 35, 34, 33, 32, 31, 30, 29, 28, 27, 26, 25, 15, 14, 13, 12, 11, 10, 9, 4, 2] : List Nat) → h3122.2.2.2.2 x k = defaultValue (gGG.2.1 12 k) := raw_dp fh3122 dd3040
    have s3129 := (fh3122 2 (by decide)).trans s3081
    have s3130 := (fh3122 4 (by decide)).trans s3082
    have s3131 := (fh3122 9 (by decide)).trans s3083
    have s3132 := (fh3122 10 (by decide)).trans s3084
    have s3133 := (fh3122 11 (by decide)).trans s3085
    have s3134 := (fh3122 12 (by decide)).trans s3086
    have s3135 := (fh3122 13 (by decide)).trans s3087
    have s3136 := (fh3122 14 (by decide)).trans s3088
    have s3137 := (fh3122 15 (by decide)).trans s3089
    have s3138 := (fh3122 25 (by decide)).trans s3090
    have s3139 := (fh3122 26 (by decide)).trans s3091
    have s3140 := (fh3122 27 (by decide)).trans s3092
    have s3141 := (fh3122 28 (by decide)).trans s3093
    have s3142 := (fh3122 29 (by decide)).trans s3094
    have s3143 := (fh3122 30 (by decide)).trans s3095
    have s3144 := (fh3122 31 (by decide)).trans s3096
    have s3145 := (fh3122 32 (by decide)).trans s3097
    have s3146 := (fh3122 33 (by decide)).trans s3098
    have s3147 := (fh3122 34 (by decide)).trans s3099
    have s3148 := (fh3122 35 (by decide)).trans s3100
    have s3149 := (fh3122 36 (by decide)).trans s3101
    have s3150 := (fh3122 37 (by decide)).trans s3102
    have s3151 := (fh3122 38 (by decide)).trans s3103
    have s3152 := (fh3122 40 (by decide)).trans s3104
    have s3153 := (fh3122 49 (by decide)).trans s3105
    have s3154 := (fh3122 54 (by decide)).trans s3106
    have s3155 := (fh3122 55 (by decide)).trans s3107
    have s3156 := (fh3122 56 (by decide)).trans s3108
    have s3157 := (fh3122 57 (by decide)).trans s3109
    have s3158 := (fh3122 58 (by decide)).trans s3110
    have s3159 := (fh3122 60 (by decide)).trans s3111
    have s3160 := (fh3122 63 (by decide)).trans s3112
    have s3161 := (fh3122 65 (by decide)).trans s3113
    have s3162 := (fh3122 66 (by decide)).trans s3114
    have s3163 := (fh3122 68 (by decide)).trans s3115
    have s3164 := (fh3122 69 (by decide)).trans s3116
    have s3165 := (fh3122 70 (by decide)).trans s3117
    have s3166 := (fh3122 71 (by decide)).trans s3118
    have s3167 := (fh3122 72 (by decide)).trans s3119
    clear G3036 dd3040 rf3038 rf3039 rw3037 s3081 s3082 s3083 s3084 s3085 s3086 s3087 s3088 s3089 s3090 s3091 s3092 s3093 s3094 s3095 s3096 s3097 s3098 s3099 s3100 s3101 s3102 s3103 s3104 s3105 s3106 s3107 s3108 s3109 s3110 s3111 s3112 s3113 s3114 s3115 s3116 s3117 s3118 s3119 sS3121
    have lp3168 := cmlp3168 d hJ x nx c3 c23 c46 c72 c101 c133 c171 c209 c250 c294 c341 c391 c447 c503 c562 c624 c689 c760 c831 c905 c982 c1065 c1148 c1234 c1323 c1418 c1513 c1611 c1715 c1819 c1926 c2039 c2152 c2268 c2390 c2512 c2637 c2768 c2899 c3033
    have G3568 : gSg [1, 2, 3, 4, 5, 6, 7, 8, 9, 10, 11, 12, 13, 14, 15, 16, 17, 18, 19, 20, 21, 22, 23, 24, 25, 26, 27, 28, 29, 30, 31, 32, 33, 34, 35, 36, 37, 38, 39, 40, 41, 42, 200] [x] [8999, 10999, 31999] ty h ty3031 h3122 := gSg.ss G3124 sS3125 (by decide)
    exact gz_wk (lp3168 _ ty3031 h3122  (Nat.lt_succ_self _) G3568 uq3035 t3041 t3042 t3043 t3044 t3045 t3046 t3047 t3048 t3049 t3050 t3051 t3052 t3053 t3054 t3055 t3056 t3057 t3058 t3059 t3060 t3061 t3062 t3063 t3064 t3065 t3066 t3067 t3068 t3069 t3070 t3071 t3072 t3073 t3074 t3075 t3076 t3077 t3078 t3079 t3080 tc3033 (by omega) (by omega) s3129 s3130 s3131 s3132 s3133 s3134 s3135 s3136 s3137 s3138 s3139 s3140 s3141 s3142 s3143 s3144 s3145 s3146 s3147 s3148 s3149 s3150 s3151 s3152 s3153 s3154 s3155 s3156 s3157 s3158 s3159 s3160 s3161 s3162 s3163 s3164 s3165 s3166 s3167 eh3122 pr3120 rf3126 kh3122 rf3127 dd3128) (gLw.s (gLw.n (gLw.n (gLw.n (gLw.n gLw.z)))))
set_option maxRecDepth 20000 in
set_option maxHeartbeats 4000000 in
theorem cmlp2385 (d : Nat) {ty : Nat → Nat} {h : gH} (hJ : gJ rT 1027 ty h) (x : Nat) (nx : 1027 ≤ x) (c3 c23 c46 c72 c101 c133 c171 c209 c250 c294 c341 c391 c447 c503 c562 c624 c689 c760 c831 c905 c982 c1065 c1148 c1234 c1323 c1418 c1513 c1611 c1715 c1819 c1926 c2039 c2152 c2268 : Nat) : ∀ (fu : Nat) (ty2387 : Nat → Nat) (h2386 : gH), ((1 : Int)).toNat < fu → gSg [1, 2, 3, 4, 5, 6, 7, 8, 9, 10, 11, 12, 13, 14, 15, 16, 17, 18, 19, 20, 21, 22, 23, 24, 25, 26, 27, 28, 29, 30, 31, 32, 33, 34, 35, 36, 37, 38, 39, 40, 41, 42, 200] [x] [8999, 10999, 31999] ty h ty2387 h2386 → gUq ty2387 → ty2387 x = 200 → ty2387 c3 = 2 → ty2387 c23 = 3 → ty2387 c46 = 4 → ty2387 c72 = 5 → ty2387 c101 = 6 → ty2387 c133 = 7 → ty2387 c171 = 8 → ty2387 c209 = 9 → ty2387 c250 = 10 → ty2387 c294 = 11 → ty2387 c341 = 12 → ty2387 c391 = 13 → ty2387 c447 = 14 → ty2387 c503 = 15 → ty2387 c562 = 16 → ty2387 c624 = 17 → ty2387 c689 = 18 → ty2387 c760 = 19 → ty2387 c831 = 20 → ty2387 c905 = 21 → ty2387 c982 = 22 → ty2387 c1065 = 23 → ty2387 c1148 = 24 → ty2387 c1234 = 25 → ty2387 c1323 = 26 → ty2387 c1418 = 27 → ty2387 c1513 = 28 → ty2387 c1611 = 29 → ty2387 c1715 = 30 → ty2387 c1819 = 31 → ty2387 c1926 = 32 → ty2387 c2039 = 33 → ty2387 c2152 = 34 → ty2387 c2268 = 35 → ((h2386.1 : Int) = h.1 + 34) → ((h2386.2.1 : Int) = h.2.1 + 85504) → h2386.2.2.2.2 x 2 = .ref c3 → h2386.2.2.2.2 x 4 = .ref c23 → h2386.2.2.2.2 x 9 = .ref c46 → h2386.2.2.2.2 x 10 = .ref c72 → h2386.2.2.2.2 x 11 = .ref c101 → h2386.2.2.2.2 x 12 = .ref c133 → h2386.2.2.2.2 x 13 = .ref c171 → h2386.2.2.2.2 x 14 = .ref c209 → h2386.2.2.2.2 x 15 = .ref c250 → h2386.2.2.2.2 x 25 = .ref c294 → h2386.2.2.2.2 x 26 = .ref c341 → h2386.2.2.2.2 x 27 = .ref c391 → h2386.2.2.2.2 x 28 = .ref c447 → h2386.2.2.2.2 x 29 = .ref c503 → h2386.2.2.2.2 x 30 = .ref c562 → h2386.2.2.2.2 x 31 = .ref c624 → h2386.2.2.2.2 x 32 = .ref c689 → h2386.2.2.2.2 x 33 = .ref c760 → h2386.2.2.2.2 x 34 = .ref c831 → h2386.2.2.2.2 x 35 = .ref c905 → h2386.2.2.2.2 x 36 = .ref c982 → h2386.2.2.2.2 x 37 = .ref c1065 → h2386.2.2.2.2 x 38 = .ref c1148 → h2386.2.2.2.2 x 40 = .ref c1234 → h2386.2.2.2.2 x 49 = .ref c1323 → h2386.2.2.2.2 x 54 = .ref c1418 → h2386.2.2.2.2 x 55 = .ref c1513 → h2386.2.2.2.2 x 56 = .ref c1611 → h2386.2.2.2.2 x 57 = .ref c1715 → h2386.2.2.2.2 x 58 = .ref c1819 → h2386.2.2.2.2 x 60 = .ref c1926 → h2386.2.2.2.2 x 63 = .ref c2039 → h2386.2.2.2.2 x 65 = .ref c2152 → h2386.2.2.2.2 x 66 = .ref c2268 → gNo [1, 36, 37, 38, 39, 40, 41, 42] ty2387 → x < h2386.1 → h2386.2.2.1 x = some (.inr 12) → h2386.2.2.2.1 x = 0 → (∀ k, ¬ k ∈ ([66, 65, 63, 60, 58, 57, 56, 55, 54, 49, 40, 38, 37, 36, 35, 34, 33, 32, 31, 30, 29, 28, 27, 26, 25, 15, 14, 13, 12, 11, 10, 9, 4, 2] : List Nat) → h2386.2.2.2.2 x k = defaultValue (gGG.2.1 12 k)) → gz gPP gGG gcn (d + 1) gt130 274 [some (.ref x), none, none, none, none] [] h2386 (fun q _ => ∃ ty9 : Nat → Nat, gSg [1, 2, 3, 4, 5, 6, 7, 8, 9, 10, 11, 12, 13, 14, 15, 16, 17, 18, 19, 20, 21, 22, 23, 24, 25, 26, 27, 28, 29, 30, 31, 32, 33, 34, 35, 36, 37, 38, 39, 40, 41, 42, 200] [x] [8999, 10999, 31999] ty h ty9 q.2.2 ∧ ∃ ip n1 cw ch iv1 : Int, ty9 x = 1 ∧ gfin gt130 q.1 q.2.1 = some none ∧ q.2.2.2.2.2.2 x 16 = .int (zi ip) ∧ 0 ≤ ip ∧ ip ≤ 1 ∧ q.2.2.2.2.2.2 x 53 = .int (zi n1) ∧ 0 ≤ n1 ∧ n1 ≤ 10 ∧ q.2.2.2.2.2.2 x 50 = .int (zi cw) ∧ 0 ≤ cw ∧ cw ≤ 32 ∧ q.2.2.2.2.2.2 x 51 = .int (zi ch) ∧ 0 ≤ ch ∧ ch ≤ 32 ∧ q.2.2.2.2.2.2 x 52 = .int (zi iv1) ∧ 0 ≤ iv1 ∧ iv1 ≤ 100 ∧ (ip = 0) ∧ (n1 = 0) ∧ (cw = 0) ∧ (ch = 0) ∧ (iv1 = 0) ∧ ((q.2.2.1 : Int) = h.1 + 41) ∧ ((q.2.2.2.1 : Int) = h.2.1 + 88652) ∧ (gTs ty9 0 q.2.2) ∧ (gOy ty9 31 (-1) 64 q.2.2) ∧ gUq ty9) := by
  intro fu
  induction fu with
  | zero => intro ty2387 h2386  hm; exact absurd hm (Nat.not_lt_zero _)
  | succ fu ihlp2385 =>
    intro ty2387 h2386  lp2385m lp2385G lp2385u lp2385c0 lp2385c1 lp2385c2 lp2385c3 lp2385c4 lp2385c5 lp2385c6 lp2385c7 lp2385c8 lp2385c9 lp2385c10 lp2385c11 lp2385c12 lp2385c13 lp2385c14 lp2385c15 lp2385c16 lp2385c17 lp2385c18 lp2385c19 lp2385c20 lp2385c21 lp2385c22 lp2385c23 lp2385c24 lp2385c25 lp2385c26 lp2385c27 lp2385c28 lp2385c29 lp2385c30 lp2385c31 lp2385c32 lp2385c33 lp2385c34 lp2385f0 lp2385f1 lp2385k0 lp2385k1 lp2385k2 lp2385k3 lp2385k4 lp2385k5 lp2385k6 lp2385k7 lp2385k8 lp2385k9 lp2385k10 lp2385k11 lp2385k12 lp2385k13 lp2385k14 lp2385k15 lp2385k16 lp2385k17 lp2385k18 lp2385k19 lp2385k20 lp2385k21 lp2385k22 lp2385k23 lp2385k24 lp2385k25 lp2385k26 lp2385k27 lp2385k28 lp2385k29 lp2385k30 lp2385k31 lp2385k32 lp2385k33 lp2385k34 lp2385w0 lp2385w1 lp2385w2 lp2385w3
    have sh2386 : gSs rT 1027 ty2387 [8999, 10999, 31999] h2386 h2386 := gSs.rf lp2385G.1
    refine gz_s 2 (pc' := 278) (L' := [some (.ref x), none, none, none, none]) (S' := [.int (zi 514), .ref x]) rfl ?_
    refine gs_newr 36 rfl (by decide) rfl sh2386.1 (Nat.le_of_lt (Nat.lt_of_le_of_lt (gJ.cell sh2386.1 lp2385c1 rfl).1 (gJ.cell sh2386.1 lp2385c1 rfl).2.1)) (by omega) (by omega) rfl rfl (by show (514 : Int) ≤ _; omega) (by show _ ≤ (514 : Int); omega) (fun _ _ => gos_i (by decide) (by decide)) (fun ty2388 h2389 c2390 g2391 tc2390 lc2390 nc2390 mc2390 ec2390 dc2390 uc2390 => ?_)
    have gac2390 : h.1 ≤ c2390 := by have h8 := lp2385G.2.1; have h9 := sh2386.2.1; omega
    have uq2392 := uc2390 lp2385u (Or.inr (gNo.sub (by decide +kernel) lp2385k34))
    have G2393 : gSg [1, 2, 3, 4, 5, 6, 7, 8, 9, 10, 11, 12, 13, 14, 15, 16, 17, 18, 19, 20, 21, 22, 23, 24, 25, 26, 27, 28, 29, 30, 31, 32, 33, 34, 35, 36, 37, 38, 39, 40, 41, 42, 200] [x] [8999, 10999, 31999] ty h ty2388 h2389 := gSg.tr (gSg.ss lp2385G sh2386 (by decide)) g2391 (by decide) (by decide) (fun x hx => by cases hx)
    have rw2394 := gSg.raw g2391 lp2385w0 (fun w => by cases w)
    have rf2395 := (rw2394.2.2.1.trans lp2385w1)
    have rf2396 := (rw2394.2.2.2.trans lp2385w2)
    have dd2397 := gSg.rawd (ci := 12) (ps := [66, 65, 63, 60, 58, 57, 56, 55, 54, 49, 40, 38, 37, 36, 35, 34, 33, 32, 31, 30, 29, 28, 27, 26, 25, 15, 14, 13, 12, 11, 10, 9, 4, 2]) g2391 lp2385w0 (fun w => by cases w) lp2385c0 (by decide) lp2385w3
    have t2398 : ty2388 x = 200 := rw2394.1.trans lp2385c0
    have t2399 : ty2388 c3 = 2 := gSg.typ g2391 sh2386.1 lp2385c1 rTk_2
    have t2400 : ty2388 c23 = 3 := gSg.typ g2391 sh2386.1 lp2385c2 rTk_3
    have t2401 : ty2388 c46 = 4 := gSg.typ g2391 sh2386.1 lp2385c3 rTk_4
    have t2402 : ty2388 c72 = 5 := gSg.typ g2391 sh2386.1 lp2385c4 rTk_5
    have t2403 : ty2388 c101 = 6 := gSg.typ g2391 sh2386.1 lp2385c5 rTk_6
    have t2404 : ty2388 c133 = 7 := gSg.typ g2391 sh2386.1 lp2385c6 rTk_7
    have t2405 : ty2388 c171 = 8 := gSg.typ g2391 sh2386.1 lp2385c7 rTk_8
    have t2406 : ty2388 c209 = 9 := gSg.typ g2391 sh2386.1 lp2385c8 rTk_9
    have t2407 : ty2388 c250 = 10 := gSg.typ g2391 sh2386.1 lp2385c9 rTk_10
    have t2408 : ty2388 c294 = 11 := gSg.typ g2391 sh2386.1 lp2385c10 rTk_11
    have t2409 : ty2388 c341 = 12 := gSg.typ g2391 sh2386.1 lp2385c11 rTk_12
    have t2410 : ty2388 c391 = 13 := gSg.typ g2391 sh2386.1 lp2385c12 rTk_13
    have t2411 : ty2388 c447 = 14 := gSg.typ g2391 sh2386.1 lp2385c13 rTk_14
    have t2412 : ty2388 c503 = 15 := gSg.typ g2391 sh2386.1 lp2385c14 rTk_15
    have t2413 : ty2388 c562 = 16 := gSg.typ g2391 sh2386.1 lp2385c15 rTk_16
    have t2414 : ty2388 c624 = 17 := gSg.typ g2391 sh2386.1 lp2385c16 rTk_17
    have t2415 : ty2388 c689 = 18 := gSg.typ g2391 sh2386.1 lp2385c17 rTk_18
    have t2416 : ty2388 c760 = 19 := gSg.typ g2391 sh2386.1 lp2385c18 rTk_19
    have t2417 : ty2388 c831 = 20 := gSg.typ g2391 sh2386.1 lp2385c19 rTk_20
    have t2418 : ty2388 c905 = 21 := gSg.typ g2391 sh2386.1 lp2385c20 rTk_21
    have t2419 : ty2388 c982 = 22 := gSg.typ g2391 sh2386.1 lp2385c21 rTk_22
    have t2420 : ty2388 c1065 = 23 := gSg.typ g2391 sh2386.1 lp2385c22 rTk_23
    have t2421 : ty2388 c1148 = 24 := gSg.typ g2391 sh2386.1 lp2385c23 rTk_24
    have t2422 : ty2388 c1234 = 25 := gSg.typ g2391 sh2386.1 lp2385c24 rTk_25
    have t2423 : ty2388 c1323 = 26 := gSg.typ g2391 sh2386.1 lp2385c25 rTk_26
    have t2424 : ty2388 c1418 = 27 := gSg.typ g2391 sh2386.1 lp2385c26 rTk_27
    have t2425 : ty2388 c1513 = 28 := gSg.typ g2391 sh2386.1 lp2385c27 rTk_28
    have t2426 : ty2388 c1611 = 29 := gSg.typ g2391 sh2386.1 lp2385c28 rTk_29
    have t2427 : ty2388 c1715 = 30 := gSg.typ g2391 sh2386.1 lp2385c29 rTk_30
    have t2428 : ty2388 c1819 = 31 := gSg.typ g2391 sh2386.1 lp2385c30 rTk_31
    have t2429 : ty2388 c1926 = 32 := gSg.typ g2391 sh2386.1 lp2385c31 rTk_32
    have t2430 : ty2388 c2039 = 33 := gSg.typ g2391 sh2386.1 lp2385c32 rTk_33
    have t2431 : ty2388 c2152 = 34 := gSg.typ g2391 sh2386.1 lp2385c33 rTk_34
    have t2432 : ty2388 c2268 = 35 := gSg.typ g2391 sh2386.1 lp2385c34 rTk_35
    have s2433 := gSg.rawat g2391 lp2385w0 (fun w => by cases w) lp2385c0 (by decide) lp2385k0
    have s2434 := gSg.rawat g2391 lp2385w0 (fun w => by cases w) lp2385c0 (by decide) lp2385k1
    have s2435 := gSg.rawat g2391 lp2385w0 (fun w => by cases w) lp2385c0 (by decide) lp2385k2
    have s2436 := gSg.rawat g2391 lp2385w0 (fun w => by cases w) lp2385c0 (by decide) lp2385k3
    have s2437 := gSg.rawat g2391 lp2385w0 (fun w => by cases w) lp2385c0 (by decide) lp2385k4
    have s2438 := gSg.rawat g2391 lp2385w0 (fun w => by cases w) lp2385c0 (by decide) lp2385k5
    have s2439 := gSg.rawat g2391 lp2385w0 (fun w => by cases w) lp2385c0 (by decide) lp2385k6
    have s2440 := gSg.rawat g2391 lp2385w0 (fun w => by cases w) lp2385c0 (by decide) lp2385k7
    have s2441 := gSg.rawat g2391 lp2385w0 (fun w => by cases w) lp2385c0 (by decide) lp2385k8
    have s2442 := gSg.rawat g2391 lp2385w0 (fun w => by cases w) lp2385c0 (by decide) lp2385k9
    have s2443 := gSg.rawat g2391 lp2385w0 (fun w => by cases w) lp2385c0 (by decide) lp2385k10
    have s2444 := gSg.rawat g2391 lp2385w0 (fun w => by cases w) lp2385c0 (by decide) lp2385k11
    have s2445 := gSg.rawat g2391 lp2385w0 (fun w => by cases w) lp2385c0 (by decide) lp2385k12
    have s2446 := gSg.rawat g2391 lp2385w0 (fun w => by cases w) lp2385c0 (by decide) lp2385k13
    have s2447 := gSg.rawat g2391 lp2385w0 (fun w => by cases w) lp2385c0 (by decide) lp2385k14
    have s2448 := gSg.rawat g2391 lp2385w0 (fun w => by cases w) lp2385c0 (by decide) lp2385k15
    have s2449 := gSg.rawat g2391 lp2385w0 (fun w => by cases w) lp2385c0 (by decide) lp2385k16
    have s2450 := gSg.rawat g2391 lp2385w0 (fun w => by cases w) lp2385c0 (by decide) lp2385k17
    have s2451 := gSg.rawat g2391 lp2385w0 (fun w => by cases w) lp2385c0 (by decide) lp2385k18
    have s2452 := gSg.rawat g2391 lp2385w0 (fun w => by cases w) lp2385c0 (by decide) lp2385k19
    have s2453 := gSg.rawat g2391 lp2385w0 (fun w => by cases w) lp2385c0 (by decide) lp2385k20
    have s2454 := gSg.rawat g2391 lp2385w0 (fun w => by cases w) lp2385c0 (by decide) lp2385k21
    have s2455 := gSg.rawat g2391 lp2385w0 (fun w => by cases w) lp2385c0 (by decide) lp2385k22
    have s2456 := gSg.rawat g2391 lp2385w0 (fun w => by cases w) lp2385c0 (by decide) lp2385k23
    have s2457 := gSg.rawat g2391 lp2385w0 (fun w => by cases w) lp2385c0 (by decide) lp2385k24
    have s2458 := gSg.rawat g2391 lp2385w0 (fun w => by cases w) lp2385c0 (by decide) lp2385k25
    have s2459 := gSg.rawat g2391 lp2385w0 (fun w => by cases w) lp2385c0 (by decide) lp2385k26
    have s2460 := gSg.rawat g2391 lp2385w0 (fun w => by cases w) lp2385c0 (by decide) lp2385k27
    have s2461 := gSg.rawat g2391 lp2385w0 (fun w => by cases w) lp2385c0 (by decide) lp2385k28
    have s2462 := gSg.rawat g2391 lp2385w0 (fun w => by cases w) lp2385c0 (by decide) lp2385k29
    have s2463 := gSg.rawat g2391 lp2385w0 (fun w => by cases w) lp2385c0 (by decide) lp2385k30
    have s2464 := gSg.rawat g2391 lp2385w0 (fun w => by cases w) lp2385c0 (by decide) lp2385k31
    have s2465 := gSg.rawat g2391 lp2385w0 (fun w => by cases w) lp2385c0 (by decide) lp2385k32
    have s2466 := gSg.rawat g2391 lp2385w0 (fun w => by cases w) lp2385c0 (by decide) lp2385k33
    have pr2467 : gNo [1, 37, 38, 39, 40, 41, 42] ty2388 := gNo.gr g2391 (by decide +kernel) (gNo.sub (by decide +kernel) lp2385k34)
    have sS2468 : gSs rT 1027 ty2388 [8999, 10999, 31999] h2389 h2389 := gSs.rf g2391.1
    refine gs_rput rfl (by decide) rfl sS2468.1 t2398 nx rw2394.2.1 rf2395 rfl (Or.inr rfl) (fun h2469 g2470 nh2469 mh2469 kh2469 zh2469 eh2469 fh2469 => ?_)
    have G2471 : gSg [1, 2, 3, 4, 5, 6, 7, 8, 9, 10, 11, 12, 13, 14, 15, 16, 17, 18, 19, 20, 21, 22, 23, 24, 25, 26, 27, 28, 29, 30, 31, 32, 33, 34, 35, 36, 37, 38, 39, 40, 41, 42, 200] [x] [8999, 10999, 31999] ty h ty2388 h2469 := gSg.tr (gSg.ss G2393 sS2468 (by decide)) g2470 (by decide) (by decide) (fun x hx => Or.inr hx)
    have sS2472 : gSs rT 1027 ty2388 [8999, 10999, 31999] h2469 h2469 := gSs.rf g2470.1
    have rf2473 := Nat.lt_of_lt_of_eq rw2394.2.1 nh2469.symm
    have rf2474 := zh2469.trans rf2396
    have dd2475 : ∀ k, ¬ k ∈ ([68, 66, 65, 63, 60, 58, 57, 56, 55, 54, 49, 40, 38, 37, 36, 35, 34, 33, 32, 31, 30, 29, 28, 27, 26, 25, 15, 14, 13, 12, 11, 10, 9, 4, 2] : List Nat) → h2469.2.2.2.2 x k = defaultValue (gGG.2.1 12 k) := raw_dp fh2469 dd2397
    have s2476 := (fh2469 2 (by decide)).trans s2433
    have s2477 := (fh2469 4 (by decide)).trans s2434
    have s2478 := (fh2469 9 (by decide)).trans s2435
    have s2479 := (fh2469 10 (by decide)).trans s2436
    have s2480 := (fh2469 11 (by decide)).trans s2437
    have s2481 := (fh2469 12 (by decide)).trans s2438
    have s2482 := (fh2469 13 (by decide)).trans s2439
    have s2483 := (fh2469 14 (by decide)).trans s2440
    have s2484 := (fh2469 15 (by decide)).trans s2441
    have s2485 := (fh2469 25 (by decide)).trans s2442
    have s2486 := (fh2469 26 (by decide)).trans s2443
    have s2487 := (fh2469 27 (by decide)).trans s2444
    have s2488 := (fh2469 28 (by decide)).trans s2445
    have s2489 := (fh2469 29 (by decide)).trans s2446
    have s2490 := (fh2469 30 (by decide)).trans s2447
    have s2491 := (fh2469 31 (by decide)).trans s2448
    have s2492 := (fh2469 32 (by decide)).trans s2449
    have s2493 := (fh2469 33 (by decide)).trans s2450
    have s2494 := (fh2469 34 (by decide)).trans s2451
    have s2495 := (fh2469 35 (by decide)).trans s2452
    have s2496 := (fh2469 36 (by decide)).trans s2453
    have s2497 := (fh2469 37 (by decide)).trans s2454
    have s2498 := (fh2469 38 (by decide)).trans s2455
    have s2499 := (fh2469 40 (by decide)).trans s2456
    have s2500 := (fh2469 49 (by decide)).trans s2457
    have s2501 := (fh2469 54 (by decide)).trans s2458
    have s2502 := (fh2469 55 (by decide)).trans s2459
    have s2503 := (fh2469 56 (by decide)).trans s2460
    have s2504 := (fh2469 57 (by decide)).trans s2461
    have s2505 := (fh2469 58 (by decide)).trans s2462
    have s2506 := (fh2469 60 (by decide)).trans s2463
    have s2507 := (fh2469 63 (by decide)).trans s2464
    have s2508 := (fh2469 65 (by decide)).trans s2465
    have s2509 := (fh2469 66 (by decide)).trans s2466
    clear G2393 dd2397 rf2395 rf2396 rw2394 s2433 s2434 s2435 s2436 s2437 s2438 s2439 s2440 s2441 s2442 s2443 s2444 s2445 s2446 s2447 s2448 s2449 s2450 s2451 s2452 s2453 s2454 s2455 s2456 s2457 s2458 s2459 s2460 s2461 s2462 s2463 s2464 s2465 s2466 sS2468
    refine gz_s 2 (pc' := 287) (L' := [some (.ref x), none, none, none, none]) (S' := [.int (zi 514), .ref x]) rfl ?_
    refine gs_newr 37 rfl (by decide) rfl sS2472.1 (Nat.le_of_lt (Nat.lt_of_le_of_lt (gJ.cell sS2472.1 t2399 rfl).1 (gJ.cell sS2472.1 t2399 rfl).2.1)) (by omega) (by omega) rfl rfl (by show (514 : Int) ≤ _; omega) (by show _ ≤ (514 : Int); omega) (fun _ _ => gos_i (by decide) (by decide)) (fun ty2510 h2511 c2512 g2513 tc2512 lc2512 nc2512 mc2512 ec2512 dc2512 uc2512 => ?_)
    have gac2512 : h.1 ≤ c2512 := by have h8 := G2471.2.1; have h9 := sS2472.2.1; omega
    have uq2514 := uc2512 uq2392 (Or.inr (gNo.sub (by decide +kernel) pr2467))
    have G2515 : gSg [1, 2, 3, 4, 5, 6, 7, 8, 9, 10, 11, 12, 13, 14, 15, 16, 17, 18, 19, 20, 21, 22, 23, 24, 25, 26, 27, 28, 29, 30, 31, 32, 33, 34, 35, 36, 37, 38, 39, 40, 41, 42, 200] [x] [8999, 10999, 31999] ty h ty2510 h2511 := gSg.tr (gSg.ss G2471 sS2472 (by decide)) g2513 (by decide) (by decide) (fun x hx => by cases hx)
    have rw2516 := gSg.raw g2513 rf2473 (fun w => by cases w)
    have rf2517 := (rw2516.2.2.1.trans kh2469)
    have rf2518 := (rw2516.2.2.2.trans rf2474)
    have dd2519 := gSg.rawd (ci := 12) (ps := [68, 66, 65, 63, 60, 58, 57, 56, 55, 54, 49, 40, 38, 37, 36, 35, 34, 33, 32, 31, 30, 29, 28, 27, 26, 25, 15, 14, 13, 12, 11, 10, 9, 4, 2]) g2513 rf2473 (fun w => by cases w) t2398 (by decide) dd2475
    have t2520 : ty2510 x = 200 := rw2516.1.trans t2398
    have t2521 : ty2510 c3 = 2 := gSg.typ g2513 sS2472.1 t2399 rTk_2
    have t2522 : ty2510 c23 = 3 := gSg.typ g2513 sS2472.1 t2400 rTk_3
    have t2523 : ty2510 c46 = 4 := gSg.typ g2513 sS2472.1 t2401 rTk_4
    have t2524 : ty2510 c72 = 5 := gSg.typ g2513 sS2472.1 t2402 rTk_5
    have t2525 : ty2510 c101 = 6 := gSg.typ g2513 sS2472.1 t2403 rTk_6
    have t2526 : ty2510 c133 = 7 := gSg.typ g2513 sS2472.1 t2404 rTk_7
    have t2527 : ty2510 c171 = 8 := gSg.typ g2513 sS2472.1 t2405 rTk_8
    have t2528 : ty2510 c209 = 9 := gSg.typ g2513 sS2472.1 t2406 rTk_9
    have t2529 : ty2510 c250 = 10 := gSg.typ g2513 sS2472.1 t2407 rTk_10
    have t2530 : ty2510 c294 = 11 := gSg.typ g2513 sS2472.1 t2408 rTk_11
    have t2531 : ty2510 c341 = 12 := gSg.typ g2513 sS2472.1 t2409 rTk_12
    have t2532 : ty2510 c391 = 13 := gSg.typ g2513 sS2472.1 t2410 rTk_13
    have t2533 : ty2510 c447 = 14 := gSg.typ g2513 sS2472.1 t2411 rTk_14
    have t2534 : ty2510 c503 = 15 := gSg.typ g2513 sS2472.1 t2412 rTk_15
    have t2535 : ty2510 c562 = 16 := gSg.typ g2513 sS2472.1 t2413 rTk_16
    have t2536 : ty2510 c624 = 17 := gSg.typ g2513 sS2472.1 t2414 rTk_17
    have t2537 : ty2510 c689 = 18 := gSg.typ g2513 sS2472.1 t2415 rTk_18
    have t2538 : ty2510 c760 = 19 := gSg.typ g2513 sS2472.1 t2416 rTk_19
    have t2539 : ty2510 c831 = 20 := gSg.typ g2513 sS2472.1 t2417 rTk_20
    have t2540 : ty2510 c905 = 21 := gSg.typ g2513 sS2472.1 t2418 rTk_21
    have t2541 : ty2510 c982 = 22 := gSg.typ g2513 sS2472.1 t2419 rTk_22
    have t2542 : ty2510 c1065 = 23 := gSg.typ g2513 sS2472.1 t2420 rTk_23
    have t2543 : ty2510 c1148 = 24 := gSg.typ g2513 sS2472.1 t2421 rTk_24
    have t2544 : ty2510 c1234 = 25 := gSg.typ g2513 sS2472.1 t2422 rTk_25
    have t2545 : ty2510 c1323 = 26 := gSg.typ g2513 sS2472.1 t2423 rTk_26
    have t2546 : ty2510 c1418 = 27 := gSg.typ g2513 sS2472.1 t2424 rTk_27
    have t2547 : ty2510 c1513 = 28 := gSg.typ g2513 sS2472.1 t2425 rTk_28
    have t2548 : ty2510 c1611 = 29 := gSg.typ g2513 sS2472.1 t2426 rTk_29
    have t2549 : ty2510 c1715 = 30 := gSg.typ g2513 sS2472.1 t2427 rTk_30
    have t2550 : ty2510 c1819 = 31 := gSg.typ g2513 sS2472.1 t2428 rTk_31
    have t2551 : ty2510 c1926 = 32 := gSg.typ g2513 sS2472.1 t2429 rTk_32
    have t2552 : ty2510 c2039 = 33 := gSg.typ g2513 sS2472.1 t2430 rTk_33
    have t2553 : ty2510 c2152 = 34 := gSg.typ g2513 sS2472.1 t2431 rTk_34
    have t2554 : ty2510 c2268 = 35 := gSg.typ g2513 sS2472.1 t2432 rTk_35
    have t2555 : ty2510 c2390 = 36 := gSg.typ g2513 sS2472.1 tc2390 rTk_36
    have s2556 := gSg.rawat g2513 rf2473 (fun w => by cases w) t2398 (by decide) s2476
    have s2557 := gSg.rawat g2513 rf2473 (fun w => by cases w) t2398 (by decide) s2477
    have s2558 := gSg.rawat g2513 rf2473 (fun w => by cases w) t2398 (by decide) s2478
    have s2559 := gSg.rawat g2513 rf2473 (fun w => by cases w) t2398 (by decide) s2479
    have s2560 := gSg.rawat g2513 rf2473 (fun w => by cases w) t2398 (by decide) s2480
    have s2561 := gSg.rawat g2513 rf2473 (fun w => by cases w) t2398 (by decide) s2481
    have s2562 := gSg.rawat g2513 rf2473 (fun w => by cases w) t2398 (by decide) s2482
    have s2563 := gSg.rawat g2513 rf2473 (fun w => by cases w) t2398 (by decide) s2483
    have s2564 := gSg.rawat g2513 rf2473 (fun w => by cases w) t2398 (by decide) s2484
    have s2565 := gSg.rawat g2513 rf2473 (fun w => by cases w) t2398 (by decide) s2485
    have s2566 := gSg.rawat g2513 rf2473 (fun w => by cases w) t2398 (by decide) s2486
    have s2567 := gSg.rawat g2513 rf2473 (fun w => by cases w) t2398 (by decide) s2487
    have s2568 := gSg.rawat g2513 rf2473 (fun w => by cases w) t2398 (by decide) s2488
    have s2569 := gSg.rawat g2513 rf2473 (fun w => by cases w) t2398 (by decide) s2489
    have s2570 := gSg.rawat g2513 rf2473 (fun w => by cases w) t2398 (by decide) s2490
    have s2571 := gSg.rawat g2513 rf2473 (fun w => by cases w) t2398 (by decide) s2491
    have s2572 := gSg.rawat g2513 rf2473 (fun w => by cases w) t2398 (by decide) s2492
    have s2573 := gSg.rawat g2513 rf2473 (fun w => by cases w) t2398 (by decide) s2493
    have s2574 := gSg.rawat g2513 rf2473 (fun w => by cases w) t2398 (by decide) s2494
    have s2575 := gSg.rawat g2513 rf2473 (fun w => by cases w) t2398 (by decide) s2495
    have s2576 := gSg.rawat g2513 rf2473 (fun w => by cases w) t2398 (by decide) s2496
    have s2577 := gSg.rawat g2513 rf2473 (fun w => by cases w) t2398 (by decide) s2497
    have s2578 := gSg.rawat g2513 rf2473 (fun w => by cases w) t2398 (by decide) s2498
    have s2579 := gSg.rawat g2513 rf2473 (fun w => by cases w) t2398 (by decide) s2499
    have s2580 := gSg.rawat g2513 rf2473 (fun w => by cases w) t2398 (by decide) s2500
    have s2581 := gSg.rawat g2513 rf2473 (fun w => by cases w) t2398 (by decide) s2501
    have s2582 := gSg.rawat g2513 rf2473 (fun w => by cases w) t2398 (by decide) s2502
    have s2583 := gSg.rawat g2513 rf2473 (fun w => by cases w) t2398 (by decide) s2503
    have s2584 := gSg.rawat g2513 rf2473 (fun w => by cases w) t2398 (by decide) s2504
    have s2585 := gSg.rawat g2513 rf2473 (fun w => by cases w) t2398 (by decide) s2505
    have s2586 := gSg.rawat g2513 rf2473 (fun w => by cases w) t2398 (by decide) s2506
    have s2587 := gSg.rawat g2513 rf2473 (fun w => by cases w) t2398 (by decide) s2507
    have s2588 := gSg.rawat g2513 rf2473 (fun w => by cases w) t2398 (by decide) s2508
    have s2589 := gSg.rawat g2513 rf2473 (fun w => by cases w) t2398 (by decide) s2509
    have s2590 := gSg.rawat g2513 rf2473 (fun w => by cases w) t2398 (by decide) eh2469
    have pr2591 : gNo [1, 38, 39, 40, 41, 42] ty2510 := gNo.gr g2513 (by decide +kernel) (gNo.sub (by decide +kernel) pr2467)
    have sS2592 : gSs rT 1027 ty2510 [8999, 10999, 31999] h2511 h2511 := gSs.rf g2513.1
    clear G2471 dd2475 pr2467 rf2473 rf2474 s2476 s2477 s2478 s2479 s2480 s2481 s2482 s2483 s2484 s2485 s2486 s2487 s2488 s2489 s2490 s2491 s2492 s2493 s2494 s2495 s2496 s2497 s2498 s2499 s2500 s2501 s2502 s2503 s2504 s2505 s2506 s2507 s2508 s2509 sS2472 t2398 t2399 t2400 t2401 t2402 t2403 t2404 t2405 t2406 t2407 t2408 t2409 t2410 t2411 t2412 t2413 t2414 t2415 t2416 t2417 t2418 t2419 t2420 t2421 t2422 t2423 t2424 t2425 t2426 t2427 t2428 t2429 t2430 t2431 t2432 uq2392
    refine gs_rput rfl (by decide) rfl sS2592.1 t2520 nx rw2516.2.1 rf2517 rfl (Or.inr rfl) (fun h2593 g2594 nh2593 mh2593 kh2593 zh2593 eh2593 fh2593 => ?_)
    have G2595 : gSg [1, 2, 3, 4, 5, 6, 7, 8, 9, 10, 11, 12, 13, 14, 15, 16, 17, 18, 19, 20, 21, 22, 23, 24, 25, 26, 27, 28, 29, 30, 31, 32, 33, 34, 35, 36, 37, 38, 39, 40, 41, 42, 200] [x] [8999, 10999, 31999] ty h ty2510 h2593 := gSg.tr (gSg.ss G2515 sS2592 (by decide)) g2594 (by decide) (by decide) (fun x hx => Or.inr hx)
    have sS2596 : gSs rT 1027 ty2510 [8999, 10999, 31999] h2593 h2593 := gSs.rf g2594.1
    have rf2597 := Nat.lt_of_lt_of_eq rw2516.2.1 nh2593.symm
    have rf2598 := zh2593.trans rf2518
    have dd2599 : ∀ k, ¬ k ∈ ([69, 68, 66, 65, 63, 60, 58, 57, 56, 55, 54, 49, 40, 38, 37, 36, 35, 34, 33, 32, 31, 30, 29, 28, 27, 26, 25, 15, 14, 13, 12, 11, 10, 9, 4, 2] : List Nat) → h2593.2.2.2.2 x k = defaultValue (gGG.2.1 12 k) := raw_dp fh2593 dd2519
    have s2600 := (fh2593 2 (by decide)).trans s2556
    have s2601 := (fh2593 4 (by decide)).trans s2557
    have s2602 := (fh2593 9 (by decide)).trans s2558
    have s2603 := (fh2593 10 (by decide)).trans s2559
    have s2604 := (fh2593 11 (by decide)).trans s2560
    have s2605 := (fh2593 12 (by decide)).trans s2561
    have s2606 := (fh2593 13 (by decide)).trans s2562
    have s2607 := (fh2593 14 (by decide)).trans s2563
    have s2608 := (fh2593 15 (by decide)).trans s2564
    have s2609 := (fh2593 25 (by decide)).trans s2565
    have s2610 := (fh2593 26 (by decide)).trans s2566
    have s2611 := (fh2593 27 (by decide)).trans s2567
    have s2612 := (fh2593 28 (by decide)).trans s2568
    have s2613 := (fh2593 29 (by decide)).trans s2569
    have s2614 := (fh2593 30 (by decide)).trans s2570
    have s2615 := (fh2593 31 (by decide)).trans s2571
    have s2616 := (fh2593 32 (by decide)).trans s2572
    have s2617 := (fh2593 33 (by decide)).trans s2573
    have s2618 := (fh2593 34 (by decide)).trans s2574
    have s2619 := (fh2593 35 (by decide)).trans s2575
    have s2620 := (fh2593 36 (by decide)).trans s2576
    have s2621 := (fh2593 37 (by decide)).trans s2577
    have s2622 := (fh2593 38 (by decide)).trans s2578
    have s2623 := (fh2593 40 (by decide)).trans s2579
    have s2624 := (fh2593 49 (by decide)).trans s2580
    have s2625 := (fh2593 54 (by decide)).trans s2581
    have s2626 := (fh2593 55 (by decide)).trans s2582
    have s2627 := (fh2593 56 (by decide)).trans s2583
    have s2628 := (fh2593 57 (by decide)).trans s2584
    have s2629 := (fh2593 58 (by decide)).trans s2585
    have s2630 := (fh2593 60 (by decide)).trans s2586
    have s2631 := (fh2593 63 (by decide)).trans s2587
    have s2632 := (fh2593 65 (by decide)).trans s2588
    have s2633 := (fh2593 66 (by decide)).trans s2589
    have s2634 := (fh2593 68 (by decide)).trans s2590
    clear G2515 dd2519 rf2517 rf2518 rw2516 s2556 s2557 s2558 s2559 s2560 s2561 s2562 s2563 s2564 s2565 s2566 s2567 s2568 s2569 s2570 s2571 s2572 s2573 s2574 s2575 s2576 s2577 s2578 s2579 s2580 s2581 s2582 s2583 s2584 s2585 s2586 s2587 s2588 s2589 s2590 sS2592
    refine gz_s 2 (pc' := 296) (L' := [some (.ref x), none, none, none, none]) (S' := [.int (zi 514), .ref x]) rfl ?_
    refine gs_newr 38 rfl (by decide) rfl sS2596.1 (Nat.le_of_lt (Nat.lt_of_le_of_lt (gJ.cell sS2596.1 t2521 rfl).1 (gJ.cell sS2596.1 t2521 rfl).2.1)) (by omega) (by omega) rfl rfl (by show (514 : Int) ≤ _; omega) (by show _ ≤ (514 : Int); omega) (fun _ _ => gos_i (by decide) (by decide)) (fun ty2635 h2636 c2637 g2638 tc2637 lc2637 nc2637 mc2637 ec2637 dc2637 uc2637 => ?_)
    have gac2637 : h.1 ≤ c2637 := by have h8 := G2595.2.1; have h9 := sS2596.2.1; omega
    have uq2639 := uc2637 uq2514 (Or.inr (gNo.sub (by decide +kernel) pr2591))
    have G2640 : gSg [1, 2, 3, 4, 5, 6, 7, 8, 9, 10, 11, 12, 13, 14, 15, 16, 17, 18, 19, 20, 21, 22, 23, 24, 25, 26, 27, 28, 29, 30, 31, 32, 33, 34, 35, 36, 37, 38, 39, 40, 41, 42, 200] [x] [8999, 10999, 31999] ty h ty2635 h2636 := gSg.tr (gSg.ss G2595 sS2596 (by decide)) g2638 (by decide) (by decide) (fun x hx => by cases hx)
    have rw2641 := gSg.raw g2638 rf2597 (fun w => by cases w)
    have rf2642 := (rw2641.2.2.1.trans kh2593)
    have rf2643 := (rw2641.2.2.2.trans rf2598)
    have dd2644 := gSg.rawd (ci := 12) (ps := [69, 68, 66, 65, 63, 60, 58, 57, 56, 55, 54, 49, 40, 38, 37, 36, 35, 34, 33, 32, 31, 30, 29, 28, 27, 26, 25, 15, 14, 13, 12, 11, 10, 9, 4, 2]) g2638 rf2597 (fun w => by cases w) t2520 (by decide) dd2599
    have t2645 : ty2635 x = 200 := rw2641.1.trans t2520
    have t2646 : ty2635 c3 = 2 := gSg.typ g2638 sS2596.1 t2521 rTk_2
    have t2647 : ty2635 c23 = 3 := gSg.typ g2638 sS2596.1 t2522 rTk_3
    have t2648 : ty2635 c46 = 4 := gSg.typ g2638 sS2596.1 t2523 rTk_4
    have t2649 : ty2635 c72 = 5 := gSg.typ g2638 sS2596.1 t2524 rTk_5
    have t2650 : ty2635 c101 = 6 := gSg.typ g2638 sS2596.1 t2525 rTk_6
    have t2651 : ty2635 c133 = 7 := gSg.typ g2638 sS2596.1 t2526 rTk_7
    have t2652 : ty2635 c171 = 8 := gSg.typ g2638 sS2596.1 t2527 rTk_8
    have t2653 : ty2635 c209 = 9 := gSg.typ g2638 sS2596.1 t2528 rTk_9
    have t2654 : ty2635 c250 = 10 := gSg.typ g2638 sS2596.1 t2529 rTk_10
    have t2655 : ty2635 c294 = 11 := gSg.typ g2638 sS2596.1 t2530 rTk_11
    have t2656 : ty2635 c341 = 12 := gSg.typ g2638 sS2596.1 t2531 rTk_12
    have t2657 : ty2635 c391 = 13 := gSg.typ g2638 sS2596.1 t2532 rTk_13
    have t2658 : ty2635 c447 = 14 := gSg.typ g2638 sS2596.1 t2533 rTk_14
    have t2659 : ty2635 c503 = 15 := gSg.typ g2638 sS2596.1 t2534 rTk_15
    have t2660 : ty2635 c562 = 16 := gSg.typ g2638 sS2596.1 t2535 rTk_16
    have t2661 : ty2635 c624 = 17 := gSg.typ g2638 sS2596.1 t2536 rTk_17
    have t2662 : ty2635 c689 = 18 := gSg.typ g2638 sS2596.1 t2537 rTk_18
    have t2663 : ty2635 c760 = 19 := gSg.typ g2638 sS2596.1 t2538 rTk_19
    have t2664 : ty2635 c831 = 20 := gSg.typ g2638 sS2596.1 t2539 rTk_20
    have t2665 : ty2635 c905 = 21 := gSg.typ g2638 sS2596.1 t2540 rTk_21
    have t2666 : ty2635 c982 = 22 := gSg.typ g2638 sS2596.1 t2541 rTk_22
    have t2667 : ty2635 c1065 = 23 := gSg.typ g2638 sS2596.1 t2542 rTk_23
    have t2668 : ty2635 c1148 = 24 := gSg.typ g2638 sS2596.1 t2543 rTk_24
    have t2669 : ty2635 c1234 = 25 := gSg.typ g2638 sS2596.1 t2544 rTk_25
    have t2670 : ty2635 c1323 = 26 := gSg.typ g2638 sS2596.1 t2545 rTk_26
    have t2671 : ty2635 c1418 = 27 := gSg.typ g2638 sS2596.1 t2546 rTk_27
    have t2672 : ty2635 c1513 = 28 := gSg.typ g2638 sS2596.1 t2547 rTk_28
    have t2673 : ty2635 c1611 = 29 := gSg.typ g2638 sS2596.1 t2548 rTk_29
    have t2674 : ty2635 c1715 = 30 := gSg.typ g2638 sS2596.1 t2549 rTk_30
    have t2675 : ty2635 c1819 = 31 := gSg.typ g2638 sS2596.1 t2550 rTk_31
    have t2676 : ty2635 c1926 = 32 := gSg.typ g2638 sS2596.1 t2551 rTk_32
    have t2677 : ty2635 c2039 = 33 := gSg.typ g2638 sS2596.1 t2552 rTk_33
    have t2678 : ty2635 c2152 = 34 := gSg.typ g2638 sS2596.1 t2553 rTk_34
    have t2679 : ty2635 c2268 = 35 := gSg.typ g2638 sS2596.1 t2554 rTk_35
    have t2680 : ty2635 c2390 = 36 := gSg.typ g2638 sS2596.1 t2555 rTk_36
    have t2681 : ty2635 c2512 = 37 := gSg.typ g2638 sS2596.1 tc2512 rTk_37
    have s2682 := gSg.rawat g2638 rf2597 (fun w => by cases w) t2520 (by decide) s2600
    have s2683 := gSg.rawat g2638 rf2597 (fun w => by cases w) t2520 (by decide) s2601
    have s2684 := gSg.rawat g2638 rf2597 (fun w => by cases w) t2520 (by decide) s2602
    have s2685 := gSg.rawat g2638 rf2597 (fun w => by cases w) t2520 (by decide) s2603
    have s2686 := gSg.rawat g2638 rf2597 (fun w => by cases w) t2520 (by decide) s2604
    have s2687 := gSg.rawat g2638 rf2597 (fun w => by cases w) t2520 (by decide) s2605
    have s2688 := gSg.rawat g2638 rf2597 (fun w => by cases w) t2520 (by decide) s2606
    have s2689 := gSg.rawat g2638 rf2597 (fun w => by cases w) t2520 (by decide) s2607
    have s2690 := gSg.rawat g2638 rf2597 (fun w => by cases w) t2520 (by decide) s2608
    have s2691 := gSg.rawat g2638 rf2597 (fun w => by cases w) t2520 (by decide) s2609
    have s2692 := gSg.rawat g2638 rf2597 (fun w => by cases w) t2520 (by decide) s2610
    have s2693 := gSg.rawat g2638 rf2597 (fun w => by cases w) t2520 (by decide) s2611
    have s2694 := gSg.rawat g2638 rf2597 (fun w => by cases w) t2520 (by decide) s2612
    have s2695 := gSg.rawat g2638 rf2597 (fun w => by cases w) t2520 (by decide) s2613
    have s2696 := gSg.rawat g2638 rf2597 (fun w => by cases w) t2520 (by decide) s2614
    have s2697 := gSg.rawat g2638 rf2597 (fun w => by cases w) t2520 (by decide) s2615
    have s2698 := gSg.rawat g2638 rf2597 (fun w => by cases w) t2520 (by decide) s2616
    have s2699 := gSg.rawat g2638 rf2597 (fun w => by cases w) t2520 (by decide) s2617
    have s2700 := gSg.rawat g2638 rf2597 (fun w => by cases w) t2520 (by decide) s2618
    have s2701 := gSg.rawat g2638 rf2597 (fun w => by cases w) t2520 (by decide) s2619
    have s2702 := gSg.rawat g2638 rf2597 (fun w => by cases w) t2520 (by decide) s2620
    have s2703 := gSg.rawat g2638 rf2597 (fun w => by cases w) t2520 (by decide) s2621
    have s2704 := gSg.rawat g2638 rf2597 (fun w => by cases w) t2520 (by decide) s2622
    have s2705 := gSg.rawat g2638 rf2597 (fun w => by cases w) t2520 (by decide) s2623
    have s2706 := gSg.rawat g2638 rf2597 (fun w => by cases w) t2520 (by decide) s2624
    have s2707 := gSg.rawat g2638 rf2597 (fun w => by cases w) t2520 (by decide) s2625
    have s2708 := gSg.rawat g2638 rf2597 (fun w => by cases w) t2520 (by decide) s2626
    have s2709 := gSg.rawat g2638 rf2597 (fun w => by cases w) t2520 (by decide) s2627
    have s2710 := gSg.rawat g2638 rf2597 (fun w => by cases w) t2520 (by decide) s2628
    have s2711 := gSg.rawat g2638 rf2597 (fun w => by cases w) t2520 (by decide) s2629
    have s2712 := gSg.rawat g2638 rf2597 (fun w => by cases w) t2520 (by decide) s2630
    have s2713 := gSg.rawat g2638 rf2597 (fun w => by cases w) t2520 (by decide) s2631
    have s2714 := gSg.rawat g2638 rf2597 (fun w => by cases w) t2520 (by decide) s2632
    have s2715 := gSg.rawat g2638 rf2597 (fun w => by cases w) t2520 (by decide) s2633
    have s2716 := gSg.rawat g2638 rf2597 (fun w => by cases w) t2520 (by decide) s2634
    have s2717 := gSg.rawat g2638 rf2597 (fun w => by cases w) t2520 (by decide) eh2593
    have pr2718 : gNo [1, 39, 40, 41, 42] ty2635 := gNo.gr g2638 (by decide +kernel) (gNo.sub (by decide +kernel) pr2591)
    have sS2719 : gSs rT 1027 ty2635 [8999, 10999, 31999] h2636 h2636 := gSs.rf g2638.1
    clear G2595 dd2599 pr2591 rf2597 rf2598 s2600 s2601 s2602 s2603 s2604 s2605 s2606 s2607 s2608 s2609 s2610 s2611 s2612 s2613 s2614 s2615 s2616 s2617 s2618 s2619 s2620 s2621 s2622 s2623 s2624 s2625 s2626 s2627 s2628 s2629 s2630 s2631 s2632 s2633 s2634 sS2596 t2520 t2521 t2522 t2523 t2524 t2525 t2526 t2527 t2528 t2529 t2530 t2531 t2532 t2533 t2534 t2535 t2536 t2537 t2538 t2539 t2540 t2541 t2542 t2543 t2544 t2545 t2546 t2547 t2548 t2549 t2550 t2551 t2552 t2553 t2554 t2555 uq2514
    refine gs_rput rfl (by decide) rfl sS2719.1 t2645 nx rw2641.2.1 rf2642 rfl (Or.inr rfl) (fun h2720 g2721 nh2720 mh2720 kh2720 zh2720 eh2720 fh2720 => ?_)
    have G2722 : gSg [1, 2, 3, 4, 5, 6, 7, 8, 9, 10, 11, 12, 13, 14, 15, 16, 17, 18, 19, 20, 21, 22, 23, 24, 25, 26, 27, 28, 29, 30, 31, 32, 33, 34, 35, 36, 37, 38, 39, 40, 41, 42, 200] [x] [8999, 10999, 31999] ty h ty2635 h2720 := gSg.tr (gSg.ss G2640 sS2719 (by decide)) g2721 (by decide) (by decide) (fun x hx => Or.inr hx)
    have sS2723 : gSs rT 1027 ty2635 [8999, 10999, 31999] h2720 h2720 := gSs.rf g2721.1
    have rf2724 := Nat.lt_of_lt_of_eq rw2641.2.1 nh2720.symm
    have rf2725 := zh2720.trans rf2643
    have dd2726 : ∀ k, ¬ k ∈ ([70, 69, 68, 66, 65, 63, 60, 58, 57, 56, 55, 54, 49, 40, 38, 37, 36, 35, 34, 33, 32, 31, 30, 29, 28, 27, 26, 25, 15, 14, 13, 12, 11, 10, 9, 4, 2] : List Nat) → h2720.2.2.2.2 x k = defaultValue (gGG.2.1 12 k) := raw_dp fh2720 dd2644
    have s2727 := (fh2720 2 (by decide)).trans s2682
    have s2728 := (fh2720 4 (by decide)).trans s2683
    have s2729 := (fh2720 9 (by decide)).trans s2684
    have s2730 := (fh2720 10 (by decide)).trans s2685
    have s2731 := (fh2720 11 (by decide)).trans s2686
    have s2732 := (fh2720 12 (by decide)).trans s2687
    have s2733 := (fh2720 13 (by decide)).trans s2688
    have s2734 := (fh2720 14 (by decide)).trans s2689
    have s2735 := (fh2720 15 (by decide)).trans s2690
    have s2736 := (fh2720 25 (by decide)).trans s2691
    have s2737 := (fh2720 26 (by decide)).trans s2692
    have s2738 := (fh2720 27 (by decide)).trans s2693
    have s2739 := (fh2720 28 (by decide)).trans s2694
    have s2740 := (fh2720 29 (by decide)).trans s2695
    have s2741 := (fh2720 30 (by decide)).trans s2696
    have s2742 := (fh2720 31 (by decide)).trans s2697
    have s2743 := (fh2720 32 (by decide)).trans s2698
    have s2744 := (fh2720 33 (by decide)).trans s2699
    have s2745 := (fh2720 34 (by decide)).trans s2700
    have s2746 := (fh2720 35 (by decide)).trans s2701
    have s2747 := (fh2720 36 (by decide)).trans s2702
    have s2748 := (fh2720 37 (by decide)).trans s2703
    have s2749 := (fh2720 38 (by decide)).trans s2704
    have s2750 := (fh2720 40 (by decide)).trans s2705
    have s2751 := (fh2720 49 (by decide)).trans s2706
    have s2752 := (fh2720 54 (by decide)).trans s2707
    have s2753 := (fh2720 55 (by decide)).trans s2708
    have s2754 := (fh2720 56 (by decide)).trans s2709
    have s2755 := (fh2720 57 (by decide)).trans s2710
    have s2756 := (fh2720 58 (by decide)).trans s2711
    have s2757 := (fh2720 60 (by decide)).trans s2712
    have s2758 := (fh2720 63 (by decide)).trans s2713
    have s2759 := (fh2720 65 (by decide)).trans s2714
    have s2760 := (fh2720 66 (by decide)).trans s2715
    have s2761 := (fh2720 68 (by decide)).trans s2716
    have s2762 := (fh2720 69 (by decide)).trans s2717
    clear G2640 dd2644 rf2642 rf2643 rw2641 s2682 s2683 s2684 s2685 s2686 s2687 s2688 s2689 s2690 s2691 s2692 s2693 s2694 s2695 s2696 s2697 s2698 s2699 s2700 s2701 s2702 s2703 s2704 s2705 s2706 s2707 s2708 s2709 s2710 s2711 s2712 s2713 s2714 s2715 s2716 s2717 sS2719
    have lp2763 := cmlp2763 d hJ x nx c3 c23 c46 c72 c101 c133 c171 c209 c250 c294 c341 c391 c447 c503 c562 c624 c689 c760 c831 c905 c982 c1065 c1148 c1234 c1323 c1418 c1513 c1611 c1715 c1819 c1926 c2039 c2152 c2268 c2390 c2512 c2637
    have G3569 : gSg [1, 2, 3, 4, 5, 6, 7, 8, 9, 10, 11, 12, 13, 14, 15, 16, 17, 18, 19, 20, 21, 22, 23, 24, 25, 26, 27, 28, 29, 30, 31, 32, 33, 34, 35, 36, 37, 38, 39, 40, 41, 42, 200] [x] [8999, 10999, 31999] ty h ty2635 h2720 := gSg.ss G2722 sS2723 (by decide)
    exact gz_wk (lp2763 _ ty2635 h2720  (Nat.lt_succ_self _) G3569 uq2639 t2645 t2646 t2647 t2648 t2649 t2650 t2651 t2652 t2653 t2654 t2655 t2656 t2657 t2658 t2659 t2660 t2661 t2662 t2663 t2664 t2665 t2666 t2667 t2668 t2669 t2670 t2671 t2672 t2673 t2674 t2675 t2676 t2677 t2678 t2679 t2680 t2681 tc2637 (by omega) (by omega) s2727 s2728 s2729 s2730 s2731 s2732 s2733 s2734 s2735 s2736 s2737 s2738 s2739 s2740 s2741 s2742 s2743 s2744 s2745 s2746 s2747 s2748 s2749 s2750 s2751 s2752 s2753 s2754 s2755 s2756 s2757 s2758 s2759 s2760 s2761 s2762 eh2720 pr2718 rf2724 kh2720 rf2725 dd2726) (gLw.s (gLw.n (gLw.n (gLw.n (gLw.n gLw.z)))))
set_option maxRecDepth 20000 in
set_option maxHeartbeats 4000000 in
theorem cmlp2034 (d : Nat) {ty : Nat → Nat} {h : gH} (hJ : gJ rT 1027 ty h) (x : Nat) (nx : 1027 ≤ x) (c3 c23 c46 c72 c101 c133 c171 c209 c250 c294 c341 c391 c447 c503 c562 c624 c689 c760 c831 c905 c982 c1065 c1148 c1234 c1323 c1418 c1513 c1611 c1715 c1819 c1926 : Nat) : ∀ (fu : Nat) (ty2036 : Nat → Nat) (h2035 : gH), ((1 : Int)).toNat < fu → gSg [1, 2, 3, 4, 5, 6, 7, 8, 9, 10, 11, 12, 13, 14, 15, 16, 17, 18, 19, 20, 21, 22, 23, 24, 25, 26, 27, 28, 29, 30, 31, 32, 33, 34, 35, 36, 37, 38, 39, 40, 41, 42, 200] [x] [8999, 10999, 31999] ty h ty2036 h2035 → gUq ty2036 → ty2036 x = 200 → ty2036 c3 = 2 → ty2036 c23 = 3 → ty2036 c46 = 4 → ty2036 c72 = 5 → ty2036 c101 = 6 → ty2036 c133 = 7 → ty2036 c171 = 8 → ty2036 c209 = 9 → ty2036 c250 = 10 → ty2036 c294 = 11 → ty2036 c341 = 12 → ty2036 c391 = 13 → ty2036 c447 = 14 → ty2036 c503 = 15 → ty2036 c562 = 16 → ty2036 c624 = 17 → ty2036 c689 = 18 → ty2036 c760 = 19 → ty2036 c831 = 20 → ty2036 c905 = 21 → ty2036 c982 = 22 → ty2036 c1065 = 23 → ty2036 c1148 = 24 → ty2036 c1234 = 25 → ty2036 c1323 = 26 → ty2036 c1418 = 27 → ty2036 c1513 = 28 → ty2036 c1611 = 29 → ty2036 c1715 = 30 → ty2036 c1819 = 31 → ty2036 c1926 = 32 → ((h2035.1 : Int) = h.1 + 31) → ((h2035.2.1 : Int) = h.2.1 + 84399) → h2035.2.2.2.2 x 2 = .ref c3 → h2035.2.2.2.2 x 4 = .ref c23 → h2035.2.2.2.2 x 9 = .ref c46 → h2035.2.2.2.2 x 10 = .ref c72 → h2035.2.2.2.2 x 11 = .ref c101 → h2035.2.2.2.2 x 12 = .ref c133 → h2035.2.2.2.2 x 13 = .ref c171 → h2035.2.2.2.2 x 14 = .ref c209 → h2035.2.2.2.2 x 15 = .ref c250 → h2035.2.2.2.2 x 25 = .ref c294 → h2035.2.2.2.2 x 26 = .ref c341 → h2035.2.2.2.2 x 27 = .ref c391 → h2035.2.2.2.2 x 28 = .ref c447 → h2035.2.2.2.2 x 29 = .ref c503 → h2035.2.2.2.2 x 30 = .ref c562 → h2035.2.2.2.2 x 31 = .ref c624 → h2035.2.2.2.2 x 32 = .ref c689 → h2035.2.2.2.2 x 33 = .ref c760 → h2035.2.2.2.2 x 34 = .ref c831 → h2035.2.2.2.2 x 35 = .ref c905 → h2035.2.2.2.2 x 36 = .ref c982 → h2035.2.2.2.2 x 37 = .ref c1065 → h2035.2.2.2.2 x 38 = .ref c1148 → h2035.2.2.2.2 x 40 = .ref c1234 → h2035.2.2.2.2 x 49 = .ref c1323 → h2035.2.2.2.2 x 54 = .ref c1418 → h2035.2.2.2.2 x 55 = .ref c1513 → h2035.2.2.2.2 x 56 = .ref c1611 → h2035.2.2.2.2 x 57 = .ref c1715 → h2035.2.2.2.2 x 58 = .ref c1819 → h2035.2.2.2.2 x 60 = .ref c1926 → gNo [1, 33, 34, 35, 36, 37, 38, 39, 40, 41, 42] ty2036 → x < h2035.1 → h2035.2.2.1 x = some (.inr 12) → h2035.2.2.2.1 x = 0 → (∀ k, ¬ k ∈ ([60, 58, 57, 56, 55, 54, 49, 40, 38, 37, 36, 35, 34, 33, 32, 31, 30, 29, 28, 27, 26, 25, 15, 14, 13, 12, 11, 10, 9, 4, 2] : List Nat) → h2035.2.2.2.2 x k = defaultValue (gGG.2.1 12 k)) → gz gPP gGG gcn (d + 1) gt130 249 [some (.ref x), none, none, none, none] [] h2035 (fun q _ => ∃ ty9 : Nat → Nat, gSg [1, 2, 3, 4, 5, 6, 7, 8, 9, 10, 11, 12, 13, 14, 15, 16, 17, 18, 19, 20, 21, 22, 23, 24, 25, 26, 27, 28, 29, 30, 31, 32, 33, 34, 35, 36, 37, 38, 39, 40, 41, 42, 200] [x] [8999, 10999, 31999] ty h ty9 q.2.2 ∧ ∃ ip n1 cw ch iv1 : Int, ty9 x = 1 ∧ gfin gt130 q.1 q.2.1 = some none ∧ q.2.2.2.2.2.2 x 16 = .int (zi ip) ∧ 0 ≤ ip ∧ ip ≤ 1 ∧ q.2.2.2.2.2.2 x 53 = .int (zi n1) ∧ 0 ≤ n1 ∧ n1 ≤ 10 ∧ q.2.2.2.2.2.2 x 50 = .int (zi cw) ∧ 0 ≤ cw ∧ cw ≤ 32 ∧ q.2.2.2.2.2.2 x 51 = .int (zi ch) ∧ 0 ≤ ch ∧ ch ≤ 32 ∧ q.2.2.2.2.2.2 x 52 = .int (zi iv1) ∧ 0 ≤ iv1 ∧ iv1 ≤ 100 ∧ (ip = 0) ∧ (n1 = 0) ∧ (cw = 0) ∧ (ch = 0) ∧ (iv1 = 0) ∧ ((q.2.2.1 : Int) = h.1 + 41) ∧ ((q.2.2.2.1 : Int) = h.2.1 + 88652) ∧ (gTs ty9 0 q.2.2) ∧ (gOy ty9 31 (-1) 64 q.2.2) ∧ gUq ty9) := by
  intro fu
  induction fu with
  | zero => intro ty2036 h2035  hm; exact absurd hm (Nat.not_lt_zero _)
  | succ fu ihlp2034 =>
    intro ty2036 h2035  lp2034m lp2034G lp2034u lp2034c0 lp2034c1 lp2034c2 lp2034c3 lp2034c4 lp2034c5 lp2034c6 lp2034c7 lp2034c8 lp2034c9 lp2034c10 lp2034c11 lp2034c12 lp2034c13 lp2034c14 lp2034c15 lp2034c16 lp2034c17 lp2034c18 lp2034c19 lp2034c20 lp2034c21 lp2034c22 lp2034c23 lp2034c24 lp2034c25 lp2034c26 lp2034c27 lp2034c28 lp2034c29 lp2034c30 lp2034c31 lp2034f0 lp2034f1 lp2034k0 lp2034k1 lp2034k2 lp2034k3 lp2034k4 lp2034k5 lp2034k6 lp2034k7 lp2034k8 lp2034k9 lp2034k10 lp2034k11 lp2034k12 lp2034k13 lp2034k14 lp2034k15 lp2034k16 lp2034k17 lp2034k18 lp2034k19 lp2034k20 lp2034k21 lp2034k22 lp2034k23 lp2034k24 lp2034k25 lp2034k26 lp2034k27 lp2034k28 lp2034k29 lp2034k30 lp2034k31 lp2034w0 lp2034w1 lp2034w2 lp2034w3
    have sh2035 : gSs rT 1027 ty2036 [8999, 10999, 31999] h2035 h2035 := gSs.rf lp2034G.1
    refine gz_s 2 (pc' := 253) (L' := [some (.ref x), none, none, none, none]) (S' := [.int (zi 1024), .ref x]) rfl ?_
    refine gs_newr 33 rfl (by decide) rfl sh2035.1 (Nat.le_of_lt (Nat.lt_of_le_of_lt (gJ.cell sh2035.1 lp2034c1 rfl).1 (gJ.cell sh2035.1 lp2034c1 rfl).2.1)) (by omega) (by omega) rfl rfl (by show (1024 : Int) ≤ _; omega) (by show _ ≤ (1024 : Int); omega) (fun _ _ => gos_i (by decide) (by decide)) (fun ty2037 h2038 c2039 g2040 tc2039 lc2039 nc2039 mc2039 ec2039 dc2039 uc2039 => ?_)
    have gac2039 : h.1 ≤ c2039 := by have h8 := lp2034G.2.1; have h9 := sh2035.2.1; omega
    have uq2041 := uc2039 lp2034u (Or.inr (gNo.sub (by decide +kernel) lp2034k31))
    have G2042 : gSg [1, 2, 3, 4, 5, 6, 7, 8, 9, 10, 11, 12, 13, 14, 15, 16, 17, 18, 19, 20, 21, 22, 23, 24, 25, 26, 27, 28, 29, 30, 31, 32, 33, 34, 35, 36, 37, 38, 39, 40, 41, 42, 200] [x] [8999, 10999, 31999] ty h ty2037 h2038 := gSg.tr (gSg.ss lp2034G sh2035 (by decide)) g2040 (by decide) (by decide) (fun x hx => by cases hx)
    have rw2043 := gSg.raw g2040 lp2034w0 (fun w => by cases w)
    have rf2044 := (rw2043.2.2.1.trans lp2034w1)
    have rf2045 := (rw2043.2.2.2.trans lp2034w2)
    have dd2046 := gSg.rawd (ci := 12) (ps := [60, 58, 57, 56, 55, 54, 49, 40, 38, 37, 36, 35, 34, 33, 32, 31, 30, 29, 28, 27, 26, 25, 15, 14, 13, 12, 11, 10, 9, 4, 2]) g2040 lp2034w0 (fun w => by cases w) lp2034c0 (by decide) lp2034w3
    have t2047 : ty2037 x = 200 := rw2043.1.trans lp2034c0
    have t2048 : ty2037 c3 = 2 := gSg.typ g2040 sh2035.1 lp2034c1 rTk_2
    have t2049 : ty2037 c23 = 3 := gSg.typ g2040 sh2035.1 lp2034c2 rTk_3
    have t2050 : ty2037 c46 = 4 := gSg.typ g2040 sh2035.1 lp2034c3 rTk_4
    have t2051 : ty2037 c72 = 5 := gSg.typ g2040 sh2035.1 lp2034c4 rTk_5
    have t2052 : ty2037 c101 = 6 := gSg.typ g2040 sh2035.1 lp2034c5 rTk_6
    have t2053 : ty2037 c133 = 7 := gSg.typ g2040 sh2035.1 lp2034c6 rTk_7
    have t2054 : ty2037 c171 = 8 := gSg.typ g2040 sh2035.1 lp2034c7 rTk_8
    have t2055 : ty2037 c209 = 9 := gSg.typ g2040 sh2035.1 lp2034c8 rTk_9
    have t2056 : ty2037 c250 = 10 := gSg.typ g2040 sh2035.1 lp2034c9 rTk_10
    have t2057 : ty2037 c294 = 11 := gSg.typ g2040 sh2035.1 lp2034c10 rTk_11
    have t2058 : ty2037 c341 = 12 := gSg.typ g2040 sh2035.1 lp2034c11 rTk_12
    have t2059 : ty2037 c391 = 13 := gSg.typ g2040 sh2035.1 lp2034c12 rTk_13
    have t2060 : ty2037 c447 = 14 := gSg.typ g2040 sh2035.1 lp2034c13 rTk_14
    have t2061 : ty2037 c503 = 15 := gSg.typ g2040 sh2035.1 lp2034c14 rTk_15
    have t2062 : ty2037 c562 = 16 := gSg.typ g2040 sh2035.1 lp2034c15 rTk_16
    have t2063 : ty2037 c624 = 17 := gSg.typ g2040 sh2035.1 lp2034c16 rTk_17
    have t2064 : ty2037 c689 = 18 := gSg.typ g2040 sh2035.1 lp2034c17 rTk_18
    have t2065 : ty2037 c760 = 19 := gSg.typ g2040 sh2035.1 lp2034c18 rTk_19
    have t2066 : ty2037 c831 = 20 := gSg.typ g2040 sh2035.1 lp2034c19 rTk_20
    have t2067 : ty2037 c905 = 21 := gSg.typ g2040 sh2035.1 lp2034c20 rTk_21
    have t2068 : ty2037 c982 = 22 := gSg.typ g2040 sh2035.1 lp2034c21 rTk_22
    have t2069 : ty2037 c1065 = 23 := gSg.typ g2040 sh2035.1 lp2034c22 rTk_23
    have t2070 : ty2037 c1148 = 24 := gSg.typ g2040 sh2035.1 lp2034c23 rTk_24
    have t2071 : ty2037 c1234 = 25 := gSg.typ g2040 sh2035.1 lp2034c24 rTk_25
    have t2072 : ty2037 c1323 = 26 := gSg.typ g2040 sh2035.1 lp2034c25 rTk_26
    have t2073 : ty2037 c1418 = 27 := gSg.typ g2040 sh2035.1 lp2034c26 rTk_27
    have t2074 : ty2037 c1513 = 28 := gSg.typ g2040 sh2035.1 lp2034c27 rTk_28
    have t2075 : ty2037 c1611 = 29 := gSg.typ g2040 sh2035.1 lp2034c28 rTk_29
    have t2076 : ty2037 c1715 = 30 := gSg.typ g2040 sh2035.1 lp2034c29 rTk_30
    have t2077 : ty2037 c1819 = 31 := gSg.typ g2040 sh2035.1 lp2034c30 rTk_31
    have t2078 : ty2037 c1926 = 32 := gSg.typ g2040 sh2035.1 lp2034c31 rTk_32
    have s2079 := gSg.rawat g2040 lp2034w0 (fun w => by cases w) lp2034c0 (by decide) lp2034k0
    have s2080 := gSg.rawat g2040 lp2034w0 (fun w => by cases w) lp2034c0 (by decide) lp2034k1
    have s2081 := gSg.rawat g2040 lp2034w0 (fun w => by cases w) lp2034c0 (by decide) lp2034k2
    have s2082 := gSg.rawat g2040 lp2034w0 (fun w => by cases w) lp2034c0 (by decide) lp2034k3
    have s2083 := gSg.rawat g2040 lp2034w0 (fun w => by cases w) lp2034c0 (by decide) lp2034k4
    have s2084 := gSg.rawat g2040 lp2034w0 (fun w => by cases w) lp2034c0 (by decide) lp2034k5
    have s2085 := gSg.rawat g2040 lp2034w0 (fun w => by cases w) lp2034c0 (by decide) lp2034k6
    have s2086 := gSg.rawat g2040 lp2034w0 (fun w => by cases w) lp2034c0 (by decide) lp2034k7
    have s2087 := gSg.rawat g2040 lp2034w0 (fun w => by cases w) lp2034c0 (by decide) lp2034k8
    have s2088 := gSg.rawat g2040 lp2034w0 (fun w => by cases w) lp2034c0 (by decide) lp2034k9
    have s2089 := gSg.rawat g2040 lp2034w0 (fun w => by cases w) lp2034c0 (by decide) lp2034k10
    have s2090 := gSg.rawat g2040 lp2034w0 (fun w => by cases w) lp2034c0 (by decide) lp2034k11
    have s2091 := gSg.rawat g2040 lp2034w0 (fun w => by cases w) lp2034c0 (by decide) lp2034k12
    have s2092 := gSg.rawat g2040 lp2034w0 (fun w => by cases w) lp2034c0 (by decide) lp2034k13
    have s2093 := gSg.rawat g2040 lp2034w0 (fun w => by cases w) lp2034c0 (by decide) lp2034k14
    have s2094 := gSg.rawat g2040 lp2034w0 (fun w => by cases w) lp2034c0 (by decide) lp2034k15
    have s2095 := gSg.rawat g2040 lp2034w0 (fun w => by cases w) lp2034c0 (by decide) lp2034k16
    have s2096 := gSg.rawat g2040 lp2034w0 (fun w => by cases w) lp2034c0 (by decide) lp2034k17
    have s2097 := gSg.rawat g2040 lp2034w0 (fun w => by cases w) lp2034c0 (by decide) lp2034k18
    have s2098 := gSg.rawat g2040 lp2034w0 (fun w => by cases w) lp2034c0 (by decide) lp2034k19
    have s2099 := gSg.rawat g2040 lp2034w0 (fun w => by cases w) lp2034c0 (by decide) lp2034k20
    have s2100 := gSg.rawat g2040 lp2034w0 (fun w => by cases w) lp2034c0 (by decide) lp2034k21
    have s2101 := gSg.rawat g2040 lp2034w0 (fun w => by cases w) lp2034c0 (by decide) lp2034k22
    have s2102 := gSg.rawat g2040 lp2034w0 (fun w => by cases w) lp2034c0 (by decide) lp2034k23
    have s2103 := gSg.rawat g2040 lp2034w0 (fun w => by cases w) lp2034c0 (by decide) lp2034k24
    have s2104 := gSg.rawat g2040 lp2034w0 (fun w => by cases w) lp2034c0 (by decide) lp2034k25
    have s2105 := gSg.rawat g2040 lp2034w0 (fun w => by cases w) lp2034c0 (by decide) lp2034k26
    have s2106 := gSg.rawat g2040 lp2034w0 (fun w => by cases w) lp2034c0 (by decide) lp2034k27
    have s2107 := gSg.rawat g2040 lp2034w0 (fun w => by cases w) lp2034c0 (by decide) lp2034k28
    have s2108 := gSg.rawat g2040 lp2034w0 (fun w => by cases w) lp2034c0 (by decide) lp2034k29
    have s2109 := gSg.rawat g2040 lp2034w0 (fun w => by cases w) lp2034c0 (by decide) lp2034k30
    have pr2110 : gNo [1, 34, 35, 36, 37, 38, 39, 40, 41, 42] ty2037 := gNo.gr g2040 (by decide +kernel) (gNo.sub (by decide +kernel) lp2034k31)
    have sS2111 : gSs rT 1027 ty2037 [8999, 10999, 31999] h2038 h2038 := gSs.rf g2040.1
    refine gs_rput rfl (by decide) rfl sS2111.1 t2047 nx rw2043.2.1 rf2044 rfl (Or.inr rfl) (fun h2112 g2113 nh2112 mh2112 kh2112 zh2112 eh2112 fh2112 => ?_)
    have G2114 : gSg [1, 2, 3, 4, 5, 6, 7, 8, 9, 10, 11, 12, 13, 14, 15, 16, 17, 18, 19, 20, 21, 22, 23, 24, 25, 26, 27, 28, 29, 30, 31, 32, 33, 34, 35, 36, 37, 38, 39, 40, 41, 42, 200] [x] [8999, 10999, 31999] ty h ty2037 h2112 := gSg.tr (gSg.ss G2042 sS2111 (by decide)) g2113 (by decide) (by decide) (fun x hx => Or.inr hx)
    have sS2115 : gSs rT 1027 ty2037 [8999, 10999, 31999] h2112 h2112 := gSs.rf g2113.1
    have rf2116 := Nat.lt_of_lt_of_eq rw2043.2.1 nh2112.symm
    have rf2117 := zh2112.trans rf2045
    have dd2118 : ∀ k, ¬ k ∈ ([63, 60, 58, 57, 56, 55, 54, 49, 40, 38, 37, 36, 35, 34, 33, 32, 31, 30, 29, 28, 27, 26, 25, 15, 14, 13, 12, 11, 10, 9, 4, 2] : List Nat) → h2112.2.2.2.2 x k = defaultValue (gGG.2.1 12 k) := raw_dp fh2112 dd2046
    have s2119 := (fh2112 2 (by decide)).trans s2079
    have s2120 := (fh2112 4 (by decide)).trans s2080
    have s2121 := (fh2112 9 (by decide)).trans s2081
    have s2122 := (fh2112 10 (by decide)).trans s2082
    have s2123 := (fh2112 11 (by decide)).trans s2083
    have s2124 := (fh2112 12 (by decide)).trans s2084
    have s2125 := (fh2112 13 (by decide)).trans s2085
    have s2126 := (fh2112 14 (by decide)).trans s2086
    have s2127 := (fh2112 15 (by decide)).trans s2087
    have s2128 := (fh2112 25 (by decide)).trans s2088
    have s2129 := (fh2112 26 (by decide)).trans s2089
    have s2130 := (fh2112 27 (by decide)).trans s2090
    have s2131 := (fh2112 28 (by decide)).trans s2091
    have s2132 := (fh2112 29 (by decide)).trans s2092
    have s2133 := (fh2112 30 (by decide)).trans s2093
    have s2134 := (fh2112 31 (by decide)).trans s2094
    have s2135 := (fh2112 32 (by decide)).trans s2095
    have s2136 := (fh2112 33 (by decide)).trans s2096
    have s2137 := (fh2112 34 (by decide)).trans s2097
    have s2138 := (fh2112 35 (by decide)).trans s2098
    have s2139 := (fh2112 36 (by decide)).trans s2099
    have s2140 := (fh2112 37 (by decide)).trans s2100
    have s2141 := (fh2112 38 (by decide)).trans s2101
    have s2142 := (fh2112 40 (by decide)).trans s2102
    have s2143 := (fh2112 49 (by decide)).trans s2103
    have s2144 := (fh2112 54 (by decide)).trans s2104
    have s2145 := (fh2112 55 (by decide)).trans s2105
    have s2146 := (fh2112 56 (by decide)).trans s2106
    have s2147 := (fh2112 57 (by decide)).trans s2107
    have s2148 := (fh2112 58 (by decide)).trans s2108
    have s2149 := (fh2112 60 (by decide)).trans s2109
    clear G2042 dd2046 rf2044 rf2045 rw2043 s2079 s2080 s2081 s2082 s2083 s2084 s2085 s2086 s2087 s2088 s2089 s2090 s2091 s2092 s2093 s2094 s2095 s2096 s2097 s2098 s2099 s2100 s2101 s2102 s2103 s2104 s2105 s2106 s2107 s2108 s2109 sS2111
    refine gz_s 2 (pc' := 261) (L' := [some (.ref x), none, none, none, none]) (S' := [.int (zi 64), .ref x]) rfl ?_
    refine gs_newr 34 rfl (by decide) rfl sS2115.1 (Nat.le_of_lt (Nat.lt_of_le_of_lt (gJ.cell sS2115.1 t2048 rfl).1 (gJ.cell sS2115.1 t2048 rfl).2.1)) (by omega) (by omega) rfl rfl (by show (64 : Int) ≤ _; omega) (by show _ ≤ (64 : Int); omega) (fun _ _ => gos_i (by decide) (by decide)) (fun ty2150 h2151 c2152 g2153 tc2152 lc2152 nc2152 mc2152 ec2152 dc2152 uc2152 => ?_)
    have gac2152 : h.1 ≤ c2152 := by have h8 := G2114.2.1; have h9 := sS2115.2.1; omega
    have uq2154 := uc2152 uq2041 (Or.inr (gNo.sub (by decide +kernel) pr2110))
    have G2155 : gSg [1, 2, 3, 4, 5, 6, 7, 8, 9, 10, 11, 12, 13, 14, 15, 16, 17, 18, 19, 20, 21, 22, 23, 24, 25, 26, 27, 28, 29, 30, 31, 32, 33, 34, 35, 36, 37, 38, 39, 40, 41, 42, 200] [x] [8999, 10999, 31999] ty h ty2150 h2151 := gSg.tr (gSg.ss G2114 sS2115 (by decide)) g2153 (by decide) (by decide) (fun x hx => by cases hx)
    have rw2156 := gSg.raw g2153 rf2116 (fun w => by cases w)
    have rf2157 := (rw2156.2.2.1.trans kh2112)
    have rf2158 := (rw2156.2.2.2.trans rf2117)
    have dd2159 := gSg.rawd (ci := 12) (ps := [63, 60, 58, 57, 56, 55, 54, 49, 40, 38, 37, 36, 35, 34, 33, 32, 31, 30, 29, 28, 27, 26, 25, 15, 14, 13, 12, 11, 10, 9, 4, 2]) g2153 rf2116 (fun w => by cases w) t2047 (by decide) dd2118
    have t2160 : ty2150 x = 200 := rw2156.1.trans t2047
    have t2161 : ty2150 c3 = 2 := gSg.typ g2153 sS2115.1 t2048 rTk_2
    have t2162 : ty2150 c23 = 3 := gSg.typ g2153 sS2115.1 t2049 rTk_3
    have t2163 : ty2150 c46 = 4 := gSg.typ g2153 sS2115.1 t2050 rTk_4
    have t2164 : ty2150 c72 = 5 := gSg.typ g2153 sS2115.1 t2051 rTk_5
    have t2165 : ty2150 c101 = 6 := gSg.typ g2153 sS2115.1 t2052 rTk_6
    have t2166 : ty2150 c133 = 7 := gSg.typ g2153 sS2115.1 t2053 rTk_7
    have t2167 : ty2150 c171 = 8 := gSg.typ g2153 sS2115.1 t2054 rTk_8
    have t2168 : ty2150 c209 = 9 := gSg.typ g2153 sS2115.1 t2055 rTk_9
    have t2169 : ty2150 c250 = 10 := gSg.typ g2153 sS2115.1 t2056 rTk_10
    have t2170 : ty2150 c294 = 11 := gSg.typ g2153 sS2115.1 t2057 rTk_11
    have t2171 : ty2150 c341 = 12 := gSg.typ g2153 sS2115.1 t2058 rTk_12
    have t2172 : ty2150 c391 = 13 := gSg.typ g2153 sS2115.1 t2059 rTk_13
    have t2173 : ty2150 c447 = 14 := gSg.typ g2153 sS2115.1 t2060 rTk_14
    have t2174 : ty2150 c503 = 15 := gSg.typ g2153 sS2115.1 t2061 rTk_15
    have t2175 : ty2150 c562 = 16 := gSg.typ g2153 sS2115.1 t2062 rTk_16
    have t2176 : ty2150 c624 = 17 := gSg.typ g2153 sS2115.1 t2063 rTk_17
    have t2177 : ty2150 c689 = 18 := gSg.typ g2153 sS2115.1 t2064 rTk_18
    have t2178 : ty2150 c760 = 19 := gSg.typ g2153 sS2115.1 t2065 rTk_19
    have t2179 : ty2150 c831 = 20 := gSg.typ g2153 sS2115.1 t2066 rTk_20
    have t2180 : ty2150 c905 = 21 := gSg.typ g2153 sS2115.1 t2067 rTk_21
    have t2181 : ty2150 c982 = 22 := gSg.typ g2153 sS2115.1 t2068 rTk_22
    have t2182 : ty2150 c1065 = 23 := gSg.typ g2153 sS2115.1 t2069 rTk_23
    have t2183 : ty2150 c1148 = 24 := gSg.typ g2153 sS2115.1 t2070 rTk_24
    have t2184 : ty2150 c1234 = 25 := gSg.typ g2153 sS2115.1 t2071 rTk_25
    have t2185 : ty2150 c1323 = 26 := gSg.typ g2153 sS2115.1 t2072 rTk_26
    have t2186 : ty2150 c1418 = 27 := gSg.typ g2153 sS2115.1 t2073 rTk_27
    have t2187 : ty2150 c1513 = 28 := gSg.typ g2153 sS2115.1 t2074 rTk_28
    have t2188 : ty2150 c1611 = 29 := gSg.typ g2153 sS2115.1 t2075 rTk_29
    have t2189 : ty2150 c1715 = 30 := gSg.typ g2153 sS2115.1 t2076 rTk_30
    have t2190 : ty2150 c1819 = 31 := gSg.typ g2153 sS2115.1 t2077 rTk_31
    have t2191 : ty2150 c1926 = 32 := gSg.typ g2153 sS2115.1 t2078 rTk_32
    have t2192 : ty2150 c2039 = 33 := gSg.typ g2153 sS2115.1 tc2039 rTk_33
    have s2193 := gSg.rawat g2153 rf2116 (fun w => by cases w) t2047 (by decide) s2119
    have s2194 := gSg.rawat g2153 rf2116 (fun w => by cases w) t2047 (by decide) s2120
    have s2195 := gSg.rawat g2153 rf2116 (fun w => by cases w) t2047 (by decide) s2121
    have s2196 := gSg.rawat g2153 rf2116 (fun w => by cases w) t2047 (by decide) s2122
    have s2197 := gSg.rawat g2153 rf2116 (fun w => by cases w) t2047 (by decide) s2123
    have s2198 := gSg.rawat g2153 rf2116 (fun w => by cases w) t2047 (by decide) s2124
    have s2199 := gSg.rawat g2153 rf2116 (fun w => by cases w) t2047 (by decide) s2125
    have s2200 := gSg.rawat g2153 rf2116 (fun w => by cases w) t2047 (by decide) s2126
    have s2201 := gSg.rawat g2153 rf2116 (fun w => by cases w) t2047 (by decide) s2127
    have s2202 := gSg.rawat g2153 rf2116 (fun w => by cases w) t2047 (by decide) s2128
    have s2203 := gSg.rawat g2153 rf2116 (fun w => by cases w) t2047 (by decide) s2129
    have s2204 := gSg.rawat g2153 rf2116 (fun w => by cases w) t2047 (by decide) s2130
    have s2205 := gSg.rawat g2153 rf2116 (fun w => by cases w) t2047 (by decide) s2131
    have s2206 := gSg.rawat g2153 rf2116 (fun w => by cases w) t2047 (by decide) s2132
    have s2207 := gSg.rawat g2153 rf2116 (fun w => by cases w) t2047 (by decide) s2133
    have s2208 := gSg.rawat g2153 rf2116 (fun w => by cases w) t2047 (by decide) s2134
    have s2209 := gSg.rawat g2153 rf2116 (fun w => by cases w) t2047 (by decide) s2135
    have s2210 := gSg.rawat g2153 rf2116 (fun w => by cases w) t2047 (by decide) s2136
    have s2211 := gSg.rawat g2153 rf2116 (fun w => by cases w) t2047 (by decide) s2137
    have s2212 := gSg.rawat g2153 rf2116 (fun w => by cases w) t2047 (by decide) s2138
    have s2213 := gSg.rawat g2153 rf2116 (fun w => by cases w) t2047 (by decide) s2139
    have s2214 := gSg.rawat g2153 rf2116 (fun w => by cases w) t2047 (by decide) s2140
    have s2215 := gSg.rawat g2153 rf2116 (fun w => by cases w) t2047 (by decide) s2141
    have s2216 := gSg.rawat g2153 rf2116 (fun w => by cases w) t2047 (by decide) s2142
    have s2217 := gSg.rawat g2153 rf2116 (fun w => by cases w) t2047 (by decide) s2143
    have s2218 := gSg.rawat g2153 rf2116 (fun w => by cases w) t2047 (by decide) s2144
    have s2219 := gSg.rawat g2153 rf2116 (fun w => by cases w) t2047 (by decide) s2145
    have s2220 := gSg.rawat g2153 rf2116 (fun w => by cases w) t2047 (by decide) s2146
    have s2221 := gSg.rawat g2153 rf2116 (fun w => by cases w) t2047 (by decide) s2147
    have s2222 := gSg.rawat g2153 rf2116 (fun w => by cases w) t2047 (by decide) s2148
    have s2223 := gSg.rawat g2153 rf2116 (fun w => by cases w) t2047 (by decide) s2149
    have s2224 := gSg.rawat g2153 rf2116 (fun w => by cases w) t2047 (by decide) eh2112
    have pr2225 : gNo [1, 35, 36, 37, 38, 39, 40, 41, 42] ty2150 := gNo.gr g2153 (by decide +kernel) (gNo.sub (by decide +kernel) pr2110)
    have sS2226 : gSs rT 1027 ty2150 [8999, 10999, 31999] h2151 h2151 := gSs.rf g2153.1
    clear G2114 dd2118 pr2110 rf2116 rf2117 s2119 s2120 s2121 s2122 s2123 s2124 s2125 s2126 s2127 s2128 s2129 s2130 s2131 s2132 s2133 s2134 s2135 s2136 s2137 s2138 s2139 s2140 s2141 s2142 s2143 s2144 s2145 s2146 s2147 s2148 s2149 sS2115 t2047 t2048 t2049 t2050 t2051 t2052 t2053 t2054 t2055 t2056 t2057 t2058 t2059 t2060 t2061 t2062 t2063 t2064 t2065 t2066 t2067 t2068 t2069 t2070 t2071 t2072 t2073 t2074 t2075 t2076 t2077 t2078 uq2041
    refine gs_rput rfl (by decide) rfl sS2226.1 t2160 nx rw2156.2.1 rf2157 rfl (Or.inr rfl) (fun h2227 g2228 nh2227 mh2227 kh2227 zh2227 eh2227 fh2227 => ?_)
    have G2229 : gSg [1, 2, 3, 4, 5, 6, 7, 8, 9, 10, 11, 12, 13, 14, 15, 16, 17, 18, 19, 20, 21, 22, 23, 24, 25, 26, 27, 28, 29, 30, 31, 32, 33, 34, 35, 36, 37, 38, 39, 40, 41, 42, 200] [x] [8999, 10999, 31999] ty h ty2150 h2227 := gSg.tr (gSg.ss G2155 sS2226 (by decide)) g2228 (by decide) (by decide) (fun x hx => Or.inr hx)
    have sS2230 : gSs rT 1027 ty2150 [8999, 10999, 31999] h2227 h2227 := gSs.rf g2228.1
    have rf2231 := Nat.lt_of_lt_of_eq rw2156.2.1 nh2227.symm
    have rf2232 := zh2227.trans rf2158
    have dd2233 : ∀ k, ¬ k ∈ ([65, 63, 60, 58, 57, 56, 55, 54, 49, 40, 38, 37, 36, 35, 34, 33, 32, 31, 30, 29, 28, 27, 26, 25, 15, 14, 13, 12, 11, 10, 9, 4, 2] : List Nat) → h2227.2.2.2.2 x k = defaultValue (gGG.2.1 12 k) := raw_dp fh2227 dd2159
    have s2234 := (fh2227 2 (by decide)).trans s2193
    have s2235 := (fh2227 4 (by decide)).trans s2194
    have s2236 := (fh2227 9 (by decide)).trans s2195
    have s2237 := (fh2227 10 (by decide)).trans s2196
    have s2238 := (fh2227 11 (by decide)).trans s2197
    have s2239 := (fh2227 12 (by decide)).trans s2198
    have s2240 := (fh2227 13 (by decide)).trans s2199
    have s2241 := (fh2227 14 (by decide)).trans s2200
    have s2242 := (fh2227 15 (by decide)).trans s2201
    have s2243 := (fh2227 25 (by decide)).trans s2202
    have s2244 := (fh2227 26 (by decide)).trans s2203
    have s2245 := (fh2227 27 (by decide)).trans s2204
    have s2246 := (fh2227 28 (by decide)).trans s2205
    have s2247 := (fh2227 29 (by decide)).trans s2206
    have s2248 := (fh2227 30 (by decide)).trans s2207
    have s2249 := (fh2227 31 (by decide)).trans s2208
    have s2250 := (fh2227 32 (by decide)).trans s2209
    have s2251 := (fh2227 33 (by decide)).trans s2210
    have s2252 := (fh2227 34 (by decide)).trans s2211
    have s2253 := (fh2227 35 (by decide)).trans s2212
    have s2254 := (fh2227 36 (by decide)).trans s2213
    have s2255 := (fh2227 37 (by decide)).trans s2214
    have s2256 := (fh2227 38 (by decide)).trans s2215
    have s2257 := (fh2227 40 (by decide)).trans s2216
    have s2258 := (fh2227 49 (by decide)).trans s2217
    have s2259 := (fh2227 54 (by decide)).trans s2218
    have s2260 := (fh2227 55 (by decide)).trans s2219
    have s2261 := (fh2227 56 (by decide)).trans s2220
    have s2262 := (fh2227 57 (by decide)).trans s2221
    have s2263 := (fh2227 58 (by decide)).trans s2222
    have s2264 := (fh2227 60 (by decide)).trans s2223
    have s2265 := (fh2227 63 (by decide)).trans s2224
    clear G2155 dd2159 rf2157 rf2158 rw2156 s2193 s2194 s2195 s2196 s2197 s2198 s2199 s2200 s2201 s2202 s2203 s2204 s2205 s2206 s2207 s2208 s2209 s2210 s2211 s2212 s2213 s2214 s2215 s2216 s2217 s2218 s2219 s2220 s2221 s2222 s2223 s2224 sS2226
    refine gz_s 2 (pc' := 269) (L' := [some (.ref x), none, none, none, none]) (S' := [.int (zi 17), .ref x]) rfl ?_
    refine gs_newr 35 rfl (by decide) rfl sS2230.1 (Nat.le_of_lt (Nat.lt_of_le_of_lt (gJ.cell sS2230.1 t2161 rfl).1 (gJ.cell sS2230.1 t2161 rfl).2.1)) (by omega) (by omega) rfl rfl (by show (17 : Int) ≤ _; omega) (by show _ ≤ (17 : Int); omega) (fun _ _ => gos_i (by decide) (by decide)) (fun ty2266 h2267 c2268 g2269 tc2268 lc2268 nc2268 mc2268 ec2268 dc2268 uc2268 => ?_)
    have gac2268 : h.1 ≤ c2268 := by have h8 := G2229.2.1; have h9 := sS2230.2.1; omega
    have uq2270 := uc2268 uq2154 (Or.inr (gNo.sub (by decide +kernel) pr2225))
    have G2271 : gSg [1, 2, 3, 4, 5, 6, 7, 8, 9, 10, 11, 12, 13, 14, 15, 16, 17, 18, 19, 20, 21, 22, 23, 24, 25, 26, 27, 28, 29, 30, 31, 32, 33, 34, 35, 36, 37, 38, 39, 40, 41, 42, 200] [x] [8999, 10999, 31999] ty h ty2266 h2267 := gSg.tr (gSg.ss G2229 sS2230 (by decide)) g2269 (by decide) (by decide) (fun x hx => by cases hx)
    have rw2272 := gSg.raw g2269 rf2231 (fun w => by cases w)
    have rf2273 := (rw2272.2.2.1.trans kh2227)
    have rf2274 := (rw2272.2.2.2.trans rf2232)
    have dd2275 := gSg.rawd (ci := 12) (ps := [65, 63, 60, 58, 57, 56, 55, 54, 49, 40, 38, 37, 36, 35, 34, 33, 32, 31, 30, 29, 28, 27, 26, 25, 15, 14, 13, 12, 11, 10, 9, 4, 2]) g2269 rf2231 (fun w => by cases w) t2160 (by decide) dd2233
    have t2276 : ty2266 x = 200 := rw2272.1.trans t2160
    have t2277 : ty2266 c3 = 2 := gSg.typ g2269 sS2230.1 t2161 rTk_2
    have t2278 : ty2266 c23 = 3 := gSg.typ g2269 sS2230.1 t2162 rTk_3
    have t2279 : ty2266 c46 = 4 := gSg.typ g2269 sS2230.1 t2163 rTk_4
    have t2280 : ty2266 c72 = 5 := gSg.typ g2269 sS2230.1 t2164 rTk_5
    have t2281 : ty2266 c101 = 6 := gSg.typ g2269 sS2230.1 t2165 rTk_6
    have t2282 : ty2266 c133 = 7 := gSg.typ g2269 sS2230.1 t2166 rTk_7
    have t2283 : ty2266 c171 = 8 := gSg.typ g2269 sS2230.1 t2167 rTk_8
    have t2284 : ty2266 c209 = 9 := gSg.typ g2269 sS2230.1 t2168 rTk_9
    have t2285 : ty2266 c250 = 10 := gSg.typ g2269 sS2230.1 t2169 rTk_10
    have t2286 : ty2266 c294 = 11 := gSg.typ g2269 sS2230.1 t2170 rTk_11
    have t2287 : ty2266 c341 = 12 := gSg.typ g2269 sS2230.1 t2171 rTk_12
    have t2288 : ty2266 c391 = 13 := gSg.typ g2269 sS2230.1 t2172 rTk_13
    have t2289 : ty2266 c447 = 14 := gSg.typ g2269 sS2230.1 t2173 rTk_14
    have t2290 : ty2266 c503 = 15 := gSg.typ g2269 sS2230.1 t2174 rTk_15
    have t2291 : ty2266 c562 = 16 := gSg.typ g2269 sS2230.1 t2175 rTk_16
    have t2292 : ty2266 c624 = 17 := gSg.typ g2269 sS2230.1 t2176 rTk_17
    have t2293 : ty2266 c689 = 18 := gSg.typ g2269 sS2230.1 t2177 rTk_18
    have t2294 : ty2266 c760 = 19 := gSg.typ g2269 sS2230.1 t2178 rTk_19
    have t2295 : ty2266 c831 = 20 := gSg.typ g2269 sS2230.1 t2179 rTk_20
    have t2296 : ty2266 c905 = 21 := gSg.typ g2269 sS2230.1 t2180 rTk_21
    have t2297 : ty2266 c982 = 22 := gSg.typ g2269 sS2230.1 t2181 rTk_22
    have t2298 : ty2266 c1065 = 23 := gSg.typ g2269 sS2230.1 t2182 rTk_23
    have t2299 : ty2266 c1148 = 24 := gSg.typ g2269 sS2230.1 t2183 rTk_24
    have t2300 : ty2266 c1234 = 25 := gSg.typ g2269 sS2230.1 t2184 rTk_25
    have t2301 : ty2266 c1323 = 26 := gSg.typ g2269 sS2230.1 t2185 rTk_26
    have t2302 : ty2266 c1418 = 27 := gSg.typ g2269 sS2230.1 t2186 rTk_27
    have t2303 : ty2266 c1513 = 28 := gSg.typ g2269 sS2230.1 t2187 rTk_28
    have t2304 : ty2266 c1611 = 29 := gSg.typ g2269 sS2230.1 t2188 rTk_29
    have t2305 : ty2266 c1715 = 30 := gSg.typ g2269 sS2230.1 t2189 rTk_30
    have t2306 : ty2266 c1819 = 31 := gSg.typ g2269 sS2230.1 t2190 rTk_31
    have t2307 : ty2266 c1926 = 32 := gSg.typ g2269 sS2230.1 t2191 rTk_32
    have t2308 : ty2266 c2039 = 33 := gSg.typ g2269 sS2230.1 t2192 rTk_33
    have t2309 : ty2266 c2152 = 34 := gSg.typ g2269 sS2230.1 tc2152 rTk_34
    have s2310 := gSg.rawat g2269 rf2231 (fun w => by cases w) t2160 (by decide) s2234
    have s2311 := gSg.rawat g2269 rf2231 (fun w => by cases w) t2160 (by decide) s2235
    have s2312 := gSg.rawat g2269 rf2231 (fun w => by cases w) t2160 (by decide) s2236
    have s2313 := gSg.rawat g2269 rf2231 (fun w => by cases w) t2160 (by decide) s2237
    have s2314 := gSg.rawat g2269 rf2231 (fun w => by cases w) t2160 (by decide) s2238
    have s2315 := gSg.rawat g2269 rf2231 (fun w => by cases w) t2160 (by decide) s2239
    have s2316 := gSg.rawat g2269 rf2231 (fun w => by cases w) t2160 (by decide) s2240
    have s2317 := gSg.rawat g2269 rf2231 (fun w => by cases w) t2160 (by decide) s2241
    have s2318 := gSg.rawat g2269 rf2231 (fun w => by cases w) t2160 (by decide) s2242
    have s2319 := gSg.rawat g2269 rf2231 (fun w => by cases w) t2160 (by decide) s2243
    have s2320 := gSg.rawat g2269 rf2231 (fun w => by cases w) t2160 (by decide) s2244
    have s2321 := gSg.rawat g2269 rf2231 (fun w => by cases w) t2160 (by decide) s2245
    have s2322 := gSg.rawat g2269 rf2231 (fun w => by cases w) t2160 (by decide) s2246
    have s2323 := gSg.rawat g2269 rf2231 (fun w => by cases w) t2160 (by decide) s2247
    have s2324 := gSg.rawat g2269 rf2231 (fun w => by cases w) t2160 (by decide) s2248
    have s2325 := gSg.rawat g2269 rf2231 (fun w => by cases w) t2160 (by decide) s2249
    have s2326 := gSg.rawat g2269 rf2231 (fun w => by cases w) t2160 (by decide) s2250
    have s2327 := gSg.rawat g2269 rf2231 (fun w => by cases w) t2160 (by decide) s2251
    have s2328 := gSg.rawat g2269 rf2231 (fun w => by cases w) t2160 (by decide) s2252
    have s2329 := gSg.rawat g2269 rf2231 (fun w => by cases w) t2160 (by decide) s2253
    have s2330 := gSg.rawat g2269 rf2231 (fun w => by cases w) t2160 (by decide) s2254
    have s2331 := gSg.rawat g2269 rf2231 (fun w => by cases w) t2160 (by decide) s2255
    have s2332 := gSg.rawat g2269 rf2231 (fun w => by cases w) t2160 (by decide) s2256
    have s2333 := gSg.rawat g2269 rf2231 (fun w => by cases w) t2160 (by decide) s2257
    have s2334 := gSg.rawat g2269 rf2231 (fun w => by cases w) t2160 (by decide) s2258
    have s2335 := gSg.rawat g2269 rf2231 (fun w => by cases w) t2160 (by decide) s2259
    have s2336 := gSg.rawat g2269 rf2231 (fun w => by cases w) t2160 (by decide) s2260
    have s2337 := gSg.rawat g2269 rf2231 (fun w => by cases w) t2160 (by decide) s2261
    have s2338 := gSg.rawat g2269 rf2231 (fun w => by cases w) t2160 (by decide) s2262
    have s2339 := gSg.rawat g2269 rf2231 (fun w => by cases w) t2160 (by decide) s2263
    have s2340 := gSg.rawat g2269 rf2231 (fun w => by cases w) t2160 (by decide) s2264
    have s2341 := gSg.rawat g2269 rf2231 (fun w => by cases w) t2160 (by decide) s2265
    have s2342 := gSg.rawat g2269 rf2231 (fun w => by cases w) t2160 (by decide) eh2227
    have pr2343 : gNo [1, 36, 37, 38, 39, 40, 41, 42] ty2266 := gNo.gr g2269 (by decide +kernel) (gNo.sub (by decide +kernel) pr2225)
    have sS2344 : gSs rT 1027 ty2266 [8999, 10999, 31999] h2267 h2267 := gSs.rf g2269.1
    clear G2229 dd2233 pr2225 rf2231 rf2232 s2234 s2235 s2236 s2237 s2238 s2239 s2240 s2241 s2242 s2243 s2244 s2245 s2246 s2247 s2248 s2249 s2250 s2251 s2252 s2253 s2254 s2255 s2256 s2257 s2258 s2259 s2260 s2261 s2262 s2263 s2264 s2265 sS2230 t2160 t2161 t2162 t2163 t2164 t2165 t2166 t2167 t2168 t2169 t2170 t2171 t2172 t2173 t2174 t2175 t2176 t2177 t2178 t2179 t2180 t2181 t2182 t2183 t2184 t2185 t2186 t2187 t2188 t2189 t2190 t2191 t2192 uq2154
    refine gs_rput rfl (by decide) rfl sS2344.1 t2276 nx rw2272.2.1 rf2273 rfl (Or.inr rfl) (fun h2345 g2346 nh2345 mh2345 kh2345 zh2345 eh2345 fh2345 => ?_)
    have G2347 : gSg [1, 2, 3, 4, 5, 6, 7, 8, 9, 10, 11, 12, 13, 14, 15, 16, 17, 18, 19, 20, 21, 22, 23, 24, 25, 26, 27, 28, 29, 30, 31, 32, 33, 34, 35, 36, 37, 38, 39, 40, 41, 42, 200] [x] [8999, 10999, 31999] ty h ty2266 h2345 := gSg.tr (gSg.ss G2271 sS2344 (by decide)) g2346 (by decide) (by decide) (fun x hx => Or.inr hx)
    have sS2348 : gSs rT 1027 ty2266 [8999, 10999, 31999] h2345 h2345 := gSs.rf g2346.1
    have rf2349 := Nat.lt_of_lt_of_eq rw2272.2.1 nh2345.symm
    have rf2350 := zh2345.trans rf2274
    have dd2351 : ∀ k, ¬ k ∈ ([66, 65, 63, 60, 58, 57, 56, 55, 54, 49, 40, 38, 37, 36, 35, 34, 33, 32, 31, 30, 29, 28, 27, 26, 25, 15, 14, 13, 12, 11, 10, 9, 4, 2] : List Nat) → h2345.2.2.2.2 x k = defaultValue (gGG.2.1 12 k) := raw_dp fh2345 dd2275
    have s2352 := (fh2345 2 (by decide)).trans s2310
    have s2353 := (fh2345 4 (by decide)).trans s2311
    have s2354 := (fh2345 9 (by decide)).trans s2312
    have s2355 := (fh2345 10 (by decide)).trans s2313
    have s2356 := (fh2345 11 (by decide)).trans s2314
    have s2357 := (fh2345 12 (by decide)).trans s2315
    have s2358 := (fh2345 13 (by decide)).trans s2316
    have s2359 := (fh2345 14 (by decide)).trans s2317
    have s2360 := (fh2345 15 (by decide)).trans s2318
    have s2361 := (fh2345 25 (by decide)).trans s2319
    have s2362 := (fh2345 26 (by decide)).trans s2320
    have s2363 := (fh2345 27 (by decide)).trans s2321
    have s2364 := (fh2345 28 (by decide)).trans s2322
    have s2365 := (fh2345 29 (by decide)).trans s2323
    have s2366 := (fh2345 30 (by decide)).trans s2324
    have s2367 := (fh2345 31 (by decide)).trans s2325
    have s2368 := (fh2345 32 (by decide)).trans s2326
    have s2369 := (fh2345 33 (by decide)).trans s2327
    have s2370 := (fh2345 34 (by decide)).trans s2328
    have s2371 := (fh2345 35 (by decide)).trans s2329
    have s2372 := (fh2345 36 (by decide)).trans s2330
    have s2373 := (fh2345 37 (by decide)).trans s2331
    have s2374 := (fh2345 38 (by decide)).trans s2332
    have s2375 := (fh2345 40 (by decide)).trans s2333
    have s2376 := (fh2345 49 (by decide)).trans s2334
    have s2377 := (fh2345 54 (by decide)).trans s2335
    have s2378 := (fh2345 55 (by decide)).trans s2336
    have s2379 := (fh2345 56 (by decide)).trans s2337
    have s2380 := (fh2345 57 (by decide)).trans s2338
    have s2381 := (fh2345 58 (by decide)).trans s2339
    have s2382 := (fh2345 60 (by decide)).trans s2340
    have s2383 := (fh2345 63 (by decide)).trans s2341
    have s2384 := (fh2345 65 (by decide)).trans s2342
    clear G2271 dd2275 rf2273 rf2274 rw2272 s2310 s2311 s2312 s2313 s2314 s2315 s2316 s2317 s2318 s2319 s2320 s2321 s2322 s2323 s2324 s2325 s2326 s2327 s2328 s2329 s2330 s2331 s2332 s2333 s2334 s2335 s2336 s2337 s2338 s2339 s2340 s2341 s2342 sS2344
    have lp2385 := cmlp2385 d hJ x nx c3 c23 c46 c72 c101 c133 c171 c209 c250 c294 c341 c391 c447 c503 c562 c624 c689 c760 c831 c905 c982 c1065 c1148 c1234 c1323 c1418 c1513 c1611 c1715 c1819 c1926 c2039 c2152 c2268
    have G3570 : gSg [1, 2, 3, 4, 5, 6, 7, 8, 9, 10, 11, 12, 13, 14, 15, 16, 17, 18, 19, 20, 21, 22, 23, 24, 25, 26, 27, 28, 29, 30, 31, 32, 33, 34, 35, 36, 37, 38, 39, 40, 41, 42, 200] [x] [8999, 10999, 31999] ty h ty2266 h2345 := gSg.ss G2347 sS2348 (by decide)
    exact gz_wk (lp2385 _ ty2266 h2345  (Nat.lt_succ_self _) G3570 uq2270 t2276 t2277 t2278 t2279 t2280 t2281 t2282 t2283 t2284 t2285 t2286 t2287 t2288 t2289 t2290 t2291 t2292 t2293 t2294 t2295 t2296 t2297 t2298 t2299 t2300 t2301 t2302 t2303 t2304 t2305 t2306 t2307 t2308 t2309 tc2268 (by omega) (by omega) s2352 s2353 s2354 s2355 s2356 s2357 s2358 s2359 s2360 s2361 s2362 s2363 s2364 s2365 s2366 s2367 s2368 s2369 s2370 s2371 s2372 s2373 s2374 s2375 s2376 s2377 s2378 s2379 s2380 s2381 s2382 s2383 s2384 eh2345 pr2343 rf2349 kh2345 rf2350 dd2351) (gLw.s (gLw.n (gLw.n (gLw.n (gLw.n gLw.z)))))
set_option maxRecDepth 20000 in
set_option maxHeartbeats 4000000 in
theorem cmlp1710 (d : Nat) {ty : Nat → Nat} {h : gH} (hJ : gJ rT 1027 ty h) (x : Nat) (nx : 1027 ≤ x) (c3 c23 c46 c72 c101 c133 c171 c209 c250 c294 c341 c391 c447 c503 c562 c624 c689 c760 c831 c905 c982 c1065 c1148 c1234 c1323 c1418 c1513 c1611 : Nat) : ∀ (fu : Nat) (ty1712 : Nat → Nat) (h1711 : gH), ((1 : Int)).toNat < fu → gSg [1, 2, 3, 4, 5, 6, 7, 8, 9, 10, 11, 12, 13, 14, 15, 16, 17, 18, 19, 20, 21, 22, 23, 24, 25, 26, 27, 28, 29, 30, 31, 32, 33, 34, 35, 36, 37, 38, 39, 40, 41, 42, 200] [x] [8999, 10999, 31999] ty h ty1712 h1711 → gUq ty1712 → ty1712 x = 200 → ty1712 c3 = 2 → ty1712 c23 = 3 → ty1712 c46 = 4 → ty1712 c72 = 5 → ty1712 c101 = 6 → ty1712 c133 = 7 → ty1712 c171 = 8 → ty1712 c209 = 9 → ty1712 c250 = 10 → ty1712 c294 = 11 → ty1712 c341 = 12 → ty1712 c391 = 13 → ty1712 c447 = 14 → ty1712 c503 = 15 → ty1712 c562 = 16 → ty1712 c624 = 17 → ty1712 c689 = 18 → ty1712 c760 = 19 → ty1712 c831 = 20 → ty1712 c905 = 21 → ty1712 c982 = 22 → ty1712 c1065 = 23 → ty1712 c1148 = 24 → ty1712 c1234 = 25 → ty1712 c1323 = 26 → ty1712 c1418 = 27 → ty1712 c1513 = 28 → ty1712 c1611 = 29 → ((h1711.1 : Int) = h.1 + 28) → ((h1711.2.1 : Int) = h.2.1 + 24325) → h1711.2.2.2.2 x 2 = .ref c3 → h1711.2.2.2.2 x 4 = .ref c23 → h1711.2.2.2.2 x 9 = .ref c46 → h1711.2.2.2.2 x 10 = .ref c72 → h1711.2.2.2.2 x 11 = .ref c101 → h1711.2.2.2.2 x 12 = .ref c133 → h1711.2.2.2.2 x 13 = .ref c171 → h1711.2.2.2.2 x 14 = .ref c209 → h1711.2.2.2.2 x 15 = .ref c250 → h1711.2.2.2.2 x 25 = .ref c294 → h1711.2.2.2.2 x 26 = .ref c341 → h1711.2.2.2.2 x 27 = .ref c391 → h1711.2.2.2.2 x 28 = .ref c447 → h1711.2.2.2.2 x 29 = .ref c503 → h1711.2.2.2.2 x 30 = .ref c562 → h1711.2.2.2.2 x 31 = .ref c624 → h1711.2.2.2.2 x 32 = .ref c689 → h1711.2.2.2.2 x 33 = .ref c760 → h1711.2.2.2.2 x 34 = .ref c831 → h1711.2.2.2.2 x 35 = .ref c905 → h1711.2.2.2.2 x 36 = .ref c982 → h1711.2.2.2.2 x 37 = .ref c1065 → h1711.2.2.2.2 x 38 = .ref c1148 → h1711.2.2.2.2 x 40 = .ref c1234 → h1711.2.2.2.2 x 49 = .ref c1323 → h1711.2.2.2.2 x 54 = .ref c1418 → h1711.2.2.2.2 x 55 = .ref c1513 → h1711.2.2.2.2 x 56 = .ref c1611 → gNo [1, 30, 31, 32, 33, 34, 35, 36, 37, 38, 39, 40, 41, 42] ty1712 → x < h1711.1 → h1711.2.2.1 x = some (.inr 12) → h1711.2.2.2.1 x = 0 → (∀ k, ¬ k ∈ ([56, 55, 54, 49, 40, 38, 37, 36, 35, 34, 33, 32, 31, 30, 29, 28, 27, 26, 25, 15, 14, 13, 12, 11, 10, 9, 4, 2] : List Nat) → h1711.2.2.2.2 x k = defaultValue (gGG.2.1 12 k)) → gz gPP gGG gcn (d + 1) gt130 225 [some (.ref x), none, none, none, none] [] h1711 (fun q _ => ∃ ty9 : Nat → Nat, gSg [1, 2, 3, 4, 5, 6, 7, 8, 9, 10, 11, 12, 13, 14, 15, 16, 17, 18, 19, 20, 21, 22, 23, 24, 25, 26, 27, 28, 29, 30, 31, 32, 33, 34, 35, 36, 37, 38, 39, 40, 41, 42, 200] [x] [8999, 10999, 31999] ty h ty9 q.2.2 ∧ ∃ ip n1 cw ch iv1 : Int, ty9 x = 1 ∧ gfin gt130 q.1 q.2.1 = some none ∧ q.2.2.2.2.2.2 x 16 = .int (zi ip) ∧ 0 ≤ ip ∧ ip ≤ 1 ∧ q.2.2.2.2.2.2 x 53 = .int (zi n1) ∧ 0 ≤ n1 ∧ n1 ≤ 10 ∧ q.2.2.2.2.2.2 x 50 = .int (zi cw) ∧ 0 ≤ cw ∧ cw ≤ 32 ∧ q.2.2.2.2.2.2 x 51 = .int (zi ch) ∧ 0 ≤ ch ∧ ch ≤ 32 ∧ q.2.2.2.2.2.2 x 52 = .int (zi iv1) ∧ 0 ≤ iv1 ∧ iv1 ≤ 100 ∧ (ip = 0) ∧ (n1 = 0) ∧ (cw = 0) ∧ (ch = 0) ∧ (iv1 = 0) ∧ ((q.2.2.1 : Int) = h.1 + 41) ∧ ((q.2.2.2.1 : Int) = h.2.1 + 88652) ∧ (gTs ty9 0 q.2.2) ∧ (gOy ty9 31 (-1) 64 q.2.2) ∧ gUq ty9) := by
  intro fu
  induction fu with
  | zero => intro ty1712 h1711  hm; exact absurd hm (Nat.not_lt_zero _)
  | succ fu ihlp1710 =>
    intro ty1712 h1711  lp1710m lp1710G lp1710u lp1710c0 lp1710c1 lp1710c2 lp1710c3 lp1710c4 lp1710c5 lp1710c6 lp1710c7 lp1710c8 lp1710c9 lp1710c10 lp1710c11 lp1710c12 lp1710c13 lp1710c14 lp1710c15 lp1710c16 lp1710c17 lp1710c18 lp1710c19 lp1710c20 lp1710c21 lp1710c22 lp1710c23 lp1710c24 lp1710c25 lp1710c26 lp1710c27 lp1710c28 lp1710f0 lp1710f1 lp1710k0 lp1710k1 lp1710k2 lp1710k3 lp1710k4 lp1710k5 lp1710k6 lp1710k7 lp1710k8 lp1710k9 lp1710k10 lp1710k11 lp1710k12 lp1710k13 lp1710k14 lp1710k15 lp1710k16 lp1710k17 lp1710k18 lp1710k19 lp1710k20 lp1710k21 lp1710k22 lp1710k23 lp1710k24 lp1710k25 lp1710k26 lp1710k27 lp1710k28 lp1710w0 lp1710w1 lp1710w2 lp1710w3
    have sh1711 : gSs rT 1027 ty1712 [8999, 10999, 31999] h1711 h1711 := gSs.rf lp1710G.1
    refine gz_s 2 (pc' := 228) (L' := [some (.ref x), none, none, none, none]) (S' := [.int (zi 10), .ref x]) rfl ?_
    refine gs_newr 30 rfl (by decide) rfl sh1711.1 (Nat.le_of_lt (Nat.lt_of_le_of_lt (gJ.cell sh1711.1 lp1710c1 rfl).1 (gJ.cell sh1711.1 lp1710c1 rfl).2.1)) (by omega) (by omega) rfl rfl (by show (10 : Int) ≤ _; omega) (by show _ ≤ (10 : Int); omega) (fun _ _ => gos_i (by decide) (by decide)) (fun ty1713 h1714 c1715 g1716 tc1715 lc1715 nc1715 mc1715 ec1715 dc1715 uc1715 => ?_)
    have gac1715 : h.1 ≤ c1715 := by have h8 := lp1710G.2.1; have h9 := sh1711.2.1; omega
    have uq1717 := uc1715 lp1710u (Or.inr (gNo.sub (by decide +kernel) lp1710k28))
    have G1718 : gSg [1, 2, 3, 4, 5, 6, 7, 8, 9, 10, 11, 12, 13, 14, 15, 16, 17, 18, 19, 20, 21, 22, 23, 24, 25, 26, 27, 28, 29, 30, 31, 32, 33, 34, 35, 36, 37, 38, 39, 40, 41, 42, 200] [x] [8999, 10999, 31999] ty h ty1713 h1714 := gSg.tr (gSg.ss lp1710G sh1711 (by decide)) g1716 (by decide) (by decide) (fun x hx => by cases hx)
    have rw1719 := gSg.raw g1716 lp1710w0 (fun w => by cases w)
    have rf1720 := (rw1719.2.2.1.trans lp1710w1)
    have rf1721 := (rw1719.2.2.2.trans lp1710w2)
    have dd1722 := gSg.rawd (ci := 12) (ps := [56, 55, 54, 49, 40, 38, 37, 36, 35, 34, 33, 32, 31, 30, 29, 28, 27, 26, 25, 15, 14, 13, 12, 11, 10, 9, 4, 2]) g1716 lp1710w0 (fun w => by cases w) lp1710c0 (by decide) lp1710w3
    have t1723 : ty1713 x = 200 := rw1719.1.trans lp1710c0
    have t1724 : ty1713 c3 = 2 := gSg.typ g1716 sh1711.1 lp1710c1 rTk_2
    have t1725 : ty1713 c23 = 3 := gSg.typ g1716 sh1711.1 lp1710c2 rTk_3
    have t1726 : ty1713 c46 = 4 := gSg.typ g1716 sh1711.1 lp1710c3 rTk_4
    have t1727 : ty1713 c72 = 5 := gSg.typ g1716 sh1711.1 lp1710c4 rTk_5
    have t1728 : ty1713 c101 = 6 := gSg.typ g1716 sh1711.1 lp1710c5 rTk_6
    have t1729 : ty1713 c133 = 7 := gSg.typ g1716 sh1711.1 lp1710c6 rTk_7
    have t1730 : ty1713 c171 = 8 := gSg.typ g1716 sh1711.1 lp1710c7 rTk_8
    have t1731 : ty1713 c209 = 9 := gSg.typ g1716 sh1711.1 lp1710c8 rTk_9
    have t1732 : ty1713 c250 = 10 := gSg.typ g1716 sh1711.1 lp1710c9 rTk_10
    have t1733 : ty1713 c294 = 11 := gSg.typ g1716 sh1711.1 lp1710c10 rTk_11
    have t1734 : ty1713 c341 = 12 := gSg.typ g1716 sh1711.1 lp1710c11 rTk_12
    have t1735 : ty1713 c391 = 13 := gSg.typ g1716 sh1711.1 lp1710c12 rTk_13
    have t1736 : ty1713 c447 = 14 := gSg.typ g1716 sh1711.1 lp1710c13 rTk_14
    have t1737 : ty1713 c503 = 15 := gSg.typ g1716 sh1711.1 lp1710c14 rTk_15
    have t1738 : ty1713 c562 = 16 := gSg.typ g1716 sh1711.1 lp1710c15 rTk_16
    have t1739 : ty1713 c624 = 17 := gSg.typ g1716 sh1711.1 lp1710c16 rTk_17
    have t1740 : ty1713 c689 = 18 := gSg.typ g1716 sh1711.1 lp1710c17 rTk_18
    have t1741 : ty1713 c760 = 19 := gSg.typ g1716 sh1711.1 lp1710c18 rTk_19
    have t1742 : ty1713 c831 = 20 := gSg.typ g1716 sh1711.1 lp1710c19 rTk_20
    have t1743 : ty1713 c905 = 21 := gSg.typ g1716 sh1711.1 lp1710c20 rTk_21
    have t1744 : ty1713 c982 = 22 := gSg.typ g1716 sh1711.1 lp1710c21 rTk_22
    have t1745 : ty1713 c1065 = 23 := gSg.typ g1716 sh1711.1 lp1710c22 rTk_23
    have t1746 : ty1713 c1148 = 24 := gSg.typ g1716 sh1711.1 lp1710c23 rTk_24
    have t1747 : ty1713 c1234 = 25 := gSg.typ g1716 sh1711.1 lp1710c24 rTk_25
    have t1748 : ty1713 c1323 = 26 := gSg.typ g1716 sh1711.1 lp1710c25 rTk_26
    have t1749 : ty1713 c1418 = 27 := gSg.typ g1716 sh1711.1 lp1710c26 rTk_27
    have t1750 : ty1713 c1513 = 28 := gSg.typ g1716 sh1711.1 lp1710c27 rTk_28
    have t1751 : ty1713 c1611 = 29 := gSg.typ g1716 sh1711.1 lp1710c28 rTk_29
    have s1752 := gSg.rawat g1716 lp1710w0 (fun w => by cases w) lp1710c0 (by decide) lp1710k0
    have s1753 := gSg.rawat g1716 lp1710w0 (fun w => by cases w) lp1710c0 (by decide) lp1710k1
    have s1754 := gSg.rawat g1716 lp1710w0 (fun w => by cases w) lp1710c0 (by decide) lp1710k2
    have s1755 := gSg.rawat g1716 lp1710w0 (fun w => by cases w) lp1710c0 (by decide) lp1710k3
    have s1756 := gSg.rawat g1716 lp1710w0 (fun w => by cases w) lp1710c0 (by decide) lp1710k4
    have s1757 := gSg.rawat g1716 lp1710w0 (fun w => by cases w) lp1710c0 (by decide) lp1710k5
    have s1758 := gSg.rawat g1716 lp1710w0 (fun w => by cases w) lp1710c0 (by decide) lp1710k6
    have s1759 := gSg.rawat g1716 lp1710w0 (fun w => by cases w) lp1710c0 (by decide) lp1710k7
    have s1760 := gSg.rawat g1716 lp1710w0 (fun w => by cases w) lp1710c0 (by decide) lp1710k8
    have s1761 := gSg.rawat g1716 lp1710w0 (fun w => by cases w) lp1710c0 (by decide) lp1710k9
    have s1762 := gSg.rawat g1716 lp1710w0 (fun w => by cases w) lp1710c0 (by decide) lp1710k10
    have s1763 := gSg.rawat g1716 lp1710w0 (fun w => by cases w) lp1710c0 (by decide) lp1710k11
    have s1764 := gSg.rawat g1716 lp1710w0 (fun w => by cases w) lp1710c0 (by decide) lp1710k12
    have s1765 := gSg.rawat g1716 lp1710w0 (fun w => by cases w) lp1710c0 (by decide) lp1710k13
    have s1766 := gSg.rawat g1716 lp1710w0 (fun w => by cases w) lp1710c0 (by decide) lp1710k14
    have s1767 := gSg.rawat g1716 lp1710w0 (fun w => by cases w) lp1710c0 (by decide) lp1710k15
    have s1768 := gSg.rawat g1716 lp1710w0 (fun w => by cases w) lp1710c0 (by decide) lp1710k16
    have s1769 := gSg.rawat g1716 lp1710w0 (fun w => by cases w) lp1710c0 (by decide) lp1710k17
    have s1770 := gSg.rawat g1716 lp1710w0 (fun w => by cases w) lp1710c0 (by decide) lp1710k18
    have s1771 := gSg.rawat g1716 lp1710w0 (fun w => by cases w) lp1710c0 (by decide) lp1710k19
    have s1772 := gSg.rawat g1716 lp1710w0 (fun w => by cases w) lp1710c0 (by decide) lp1710k20
    have s1773 := gSg.rawat g1716 lp1710w0 (fun w => by cases w) lp1710c0 (by decide) lp1710k21
    have s1774 := gSg.rawat g1716 lp1710w0 (fun w => by cases w) lp1710c0 (by decide) lp1710k22
    have s1775 := gSg.rawat g1716 lp1710w0 (fun w => by cases w) lp1710c0 (by decide) lp1710k23
    have s1776 := gSg.rawat g1716 lp1710w0 (fun w => by cases w) lp1710c0 (by decide) lp1710k24
    have s1777 := gSg.rawat g1716 lp1710w0 (fun w => by cases w) lp1710c0 (by decide) lp1710k25
    have s1778 := gSg.rawat g1716 lp1710w0 (fun w => by cases w) lp1710c0 (by decide) lp1710k26
    have s1779 := gSg.rawat g1716 lp1710w0 (fun w => by cases w) lp1710c0 (by decide) lp1710k27
    have pr1780 : gNo [1, 31, 32, 33, 34, 35, 36, 37, 38, 39, 40, 41, 42] ty1713 := gNo.gr g1716 (by decide +kernel) (gNo.sub (by decide +kernel) lp1710k28)
    have sS1781 : gSs rT 1027 ty1713 [8999, 10999, 31999] h1714 h1714 := gSs.rf g1716.1
    refine gs_rput rfl (by decide) rfl sS1781.1 t1723 nx rw1719.2.1 rf1720 rfl (Or.inr rfl) (fun h1782 g1783 nh1782 mh1782 kh1782 zh1782 eh1782 fh1782 => ?_)
    have G1784 : gSg [1, 2, 3, 4, 5, 6, 7, 8, 9, 10, 11, 12, 13, 14, 15, 16, 17, 18, 19, 20, 21, 22, 23, 24, 25, 26, 27, 28, 29, 30, 31, 32, 33, 34, 35, 36, 37, 38, 39, 40, 41, 42, 200] [x] [8999, 10999, 31999] ty h ty1713 h1782 := gSg.tr (gSg.ss G1718 sS1781 (by decide)) g1783 (by decide) (by decide) (fun x hx => Or.inr hx)
    have sS1785 : gSs rT 1027 ty1713 [8999, 10999, 31999] h1782 h1782 := gSs.rf g1783.1
    have rf1786 := Nat.lt_of_lt_of_eq rw1719.2.1 nh1782.symm
    have rf1787 := zh1782.trans rf1721
    have dd1788 : ∀ k, ¬ k ∈ ([57, 56, 55, 54, 49, 40, 38, 37, 36, 35, 34, 33, 32, 31, 30, 29, 28, 27, 26, 25, 15, 14, 13, 12, 11, 10, 9, 4, 2] : List Nat) → h1782.2.2.2.2 x k = defaultValue (gGG.2.1 12 k) := raw_dp fh1782 dd1722
    have s1789 := (fh1782 2 (by decide)).trans s1752
    have s1790 := (fh1782 4 (by decide)).trans s1753
    have s1791 := (fh1782 9 (by decide)).trans s1754
    have s1792 := (fh1782 10 (by decide)).trans s1755
    have s1793 := (fh1782 11 (by decide)).trans s1756
    have s1794 := (fh1782 12 (by decide)).trans s1757
    have s1795 := (fh1782 13 (by decide)).trans s1758
    have s1796 := (fh1782 14 (by decide)).trans s1759
    have s1797 := (fh1782 15 (by decide)).trans s1760
    have s1798 := (fh1782 25 (by decide)).trans s1761
    have s1799 := (fh1782 26 (by decide)).trans s1762
    have s1800 := (fh1782 27 (by decide)).trans s1763
    have s1801 := (fh1782 28 (by decide)).trans s1764
    have s1802 := (fh1782 29 (by decide)).trans s1765
    have s1803 := (fh1782 30 (by decide)).trans s1766
    have s1804 := (fh1782 31 (by decide)).trans s1767
    have s1805 := (fh1782 32 (by decide)).trans s1768
    have s1806 := (fh1782 33 (by decide)).trans s1769
    have s1807 := (fh1782 34 (by decide)).trans s1770
    have s1808 := (fh1782 35 (by decide)).trans s1771
    have s1809 := (fh1782 36 (by decide)).trans s1772
    have s1810 := (fh1782 37 (by decide)).trans s1773
    have s1811 := (fh1782 38 (by decide)).trans s1774
    have s1812 := (fh1782 40 (by decide)).trans s1775
    have s1813 := (fh1782 49 (by decide)).trans s1776
    have s1814 := (fh1782 54 (by decide)).trans s1777
    have s1815 := (fh1782 55 (by decide)).trans s1778
    have s1816 := (fh1782 56 (by decide)).trans s1779
    clear G1718 dd1722 rf1720 rf1721 rw1719 s1752 s1753 s1754 s1755 s1756 s1757 s1758 s1759 s1760 s1761 s1762 s1763 s1764 s1765 s1766 s1767 s1768 s1769 s1770 s1771 s1772 s1773 s1774 s1775 s1776 s1777 s1778 s1779 sS1781
    refine gz_s 2 (pc' := 236) (L' := [some (.ref x), none, none, none, none]) (S' := [.int (zi 64), .ref x]) rfl ?_
    refine gs_newr 31 rfl (by decide) rfl sS1785.1 (Nat.le_of_lt (Nat.lt_of_le_of_lt (gJ.cell sS1785.1 t1724 rfl).1 (gJ.cell sS1785.1 t1724 rfl).2.1)) (by omega) (by omega) rfl rfl (by show (64 : Int) ≤ _; omega) (by show _ ≤ (64 : Int); omega) (fun _ _ => gos_i (by decide) (by decide)) (fun ty1817 h1818 c1819 g1820 tc1819 lc1819 nc1819 mc1819 ec1819 dc1819 uc1819 => ?_)
    have gac1819 : h.1 ≤ c1819 := by have h8 := G1784.2.1; have h9 := sS1785.2.1; omega
    have uq1821 := uc1819 uq1717 (Or.inr (gNo.sub (by decide +kernel) pr1780))
    have G1822 : gSg [1, 2, 3, 4, 5, 6, 7, 8, 9, 10, 11, 12, 13, 14, 15, 16, 17, 18, 19, 20, 21, 22, 23, 24, 25, 26, 27, 28, 29, 30, 31, 32, 33, 34, 35, 36, 37, 38, 39, 40, 41, 42, 200] [x] [8999, 10999, 31999] ty h ty1817 h1818 := gSg.tr (gSg.ss G1784 sS1785 (by decide)) g1820 (by decide) (by decide) (fun x hx => by cases hx)
    have rw1823 := gSg.raw g1820 rf1786 (fun w => by cases w)
    have rf1824 := (rw1823.2.2.1.trans kh1782)
    have rf1825 := (rw1823.2.2.2.trans rf1787)
    have dd1826 := gSg.rawd (ci := 12) (ps := [57, 56, 55, 54, 49, 40, 38, 37, 36, 35, 34, 33, 32, 31, 30, 29, 28, 27, 26, 25, 15, 14, 13, 12, 11, 10, 9, 4, 2]) g1820 rf1786 (fun w => by cases w) t1723 (by decide) dd1788
    have t1827 : ty1817 x = 200 := rw1823.1.trans t1723
    have t1828 : ty1817 c3 = 2 := gSg.typ g1820 sS1785.1 t1724 rTk_2
    have t1829 : ty1817 c23 = 3 := gSg.typ g1820 sS1785.1 t1725 rTk_3
    have t1830 : ty1817 c46 = 4 := gSg.typ g1820 sS1785.1 t1726 rTk_4
    have t1831 : ty1817 c72 = 5 := gSg.typ g1820 sS1785.1 t1727 rTk_5
    have t1832 : ty1817 c101 = 6 := gSg.typ g1820 sS1785.1 t1728 rTk_6
    have t1833 : ty1817 c133 = 7 := gSg.typ g1820 sS1785.1 t1729 rTk_7
    have t1834 : ty1817 c171 = 8 := gSg.typ g1820 sS1785.1 t1730 rTk_8
    have t1835 : ty1817 c209 = 9 := gSg.typ g1820 sS1785.1 t1731 rTk_9
    have t1836 : ty1817 c250 = 10 := gSg.typ g1820 sS1785.1 t1732 rTk_10
    have t1837 : ty1817 c294 = 11 := gSg.typ g1820 sS1785.1 t1733 rTk_11
    have t1838 : ty1817 c341 = 12 := gSg.typ g1820 sS1785.1 t1734 rTk_12
    have t1839 : ty1817 c391 = 13 := gSg.typ g1820 sS1785.1 t1735 rTk_13
    have t1840 : ty1817 c447 = 14 := gSg.typ g1820 sS1785.1 t1736 rTk_14
    have t1841 : ty1817 c503 = 15 := gSg.typ g1820 sS1785.1 t1737 rTk_15
    have t1842 : ty1817 c562 = 16 := gSg.typ g1820 sS1785.1 t1738 rTk_16
    have t1843 : ty1817 c624 = 17 := gSg.typ g1820 sS1785.1 t1739 rTk_17
    have t1844 : ty1817 c689 = 18 := gSg.typ g1820 sS1785.1 t1740 rTk_18
    have t1845 : ty1817 c760 = 19 := gSg.typ g1820 sS1785.1 t1741 rTk_19
    have t1846 : ty1817 c831 = 20 := gSg.typ g1820 sS1785.1 t1742 rTk_20
    have t1847 : ty1817 c905 = 21 := gSg.typ g1820 sS1785.1 t1743 rTk_21
    have t1848 : ty1817 c982 = 22 := gSg.typ g1820 sS1785.1 t1744 rTk_22
    have t1849 : ty1817 c1065 = 23 := gSg.typ g1820 sS1785.1 t1745 rTk_23
    have t1850 : ty1817 c1148 = 24 := gSg.typ g1820 sS1785.1 t1746 rTk_24
    have t1851 : ty1817 c1234 = 25 := gSg.typ g1820 sS1785.1 t1747 rTk_25
    have t1852 : ty1817 c1323 = 26 := gSg.typ g1820 sS1785.1 t1748 rTk_26
    have t1853 : ty1817 c1418 = 27 := gSg.typ g1820 sS1785.1 t1749 rTk_27
    have t1854 : ty1817 c1513 = 28 := gSg.typ g1820 sS1785.1 t1750 rTk_28
    have t1855 : ty1817 c1611 = 29 := gSg.typ g1820 sS1785.1 t1751 rTk_29
    have t1856 : ty1817 c1715 = 30 := gSg.typ g1820 sS1785.1 tc1715 rTk_30
    have s1857 := gSg.rawat g1820 rf1786 (fun w => by cases w) t1723 (by decide) s1789
    have s1858 := gSg.rawat g1820 rf1786 (fun w => by cases w) t1723 (by decide) s1790
    have s1859 := gSg.rawat g1820 rf1786 (fun w => by cases w) t1723 (by decide) s1791
    have s1860 := gSg.rawat g1820 rf1786 (fun w => by cases w) t1723 (by decide) s1792
    have s1861 := gSg.rawat g1820 rf1786 (fun w => by cases w) t1723 (by decide) s1793
    have s1862 := gSg.rawat g1820 rf1786 (fun w => by cases w) t1723 (by decide) s1794
    have s1863 := gSg.rawat g1820 rf1786 (fun w => by cases w) t1723 (by decide) s1795
    have s1864 := gSg.rawat g1820 rf1786 (fun w => by cases w) t1723 (by decide) s1796
    have s1865 := gSg.rawat g1820 rf1786 (fun w => by cases w) t1723 (by decide) s1797
    have s1866 := gSg.rawat g1820 rf1786 (fun w => by cases w) t1723 (by decide) s1798
    have s1867 := gSg.rawat g1820 rf1786 (fun w => by cases w) t1723 (by decide) s1799
    have s1868 := gSg.rawat g1820 rf1786 (fun w => by cases w) t1723 (by decide) s1800
    have s1869 := gSg.rawat g1820 rf1786 (fun w => by cases w) t1723 (by decide) s1801
    have s1870 := gSg.rawat g1820 rf1786 (fun w => by cases w) t1723 (by decide) s1802
    have s1871 := gSg.rawat g1820 rf1786 (fun w => by cases w) t1723 (by decide) s1803
    have s1872 := gSg.rawat g1820 rf1786 (fun w => by cases w) t1723 (by decide) s1804
    have s1873 := gSg.rawat g1820 rf1786 (fun w => by cases w) t1723 (by decide) s1805
    have s1874 := gSg.rawat g1820 rf1786 (fun w => by cases w) t1723 (by decide) s1806
    have s1875 := gSg.rawat g1820 rf1786 (fun w => by cases w) t1723 (by decide) s1807
    have s1876 := gSg.rawat g1820 rf1786 (fun w => by cases w) t1723 (by decide) s1808
    have s1877 := gSg.rawat g1820 rf1786 (fun w => by cases w) t1723 (by decide) s1809
    have s1878 := gSg.rawat g1820 rf1786 (fun w => by cases w) t1723 (by decide) s1810
    have s1879 := gSg.rawat g1820 rf1786 (fun w => by cases w) t1723 (by decide) s1811
    have s1880 := gSg.rawat g1820 rf1786 (fun w => by cases w) t1723 (by decide) s1812
    have s1881 := gSg.rawat g1820 rf1786 (fun w => by cases w) t1723 (by decide) s1813
    have s1882 := gSg.rawat g1820 rf1786 (fun w => by cases w) t1723 (by decide) s1814
    have s1883 := gSg.rawat g1820 rf1786 (fun w => by cases w) t1723 (by decide) s1815
    have s1884 := gSg.rawat g1820 rf1786 (fun w => by cases w) t1723 (by decide) s1816
    have s1885 := gSg.rawat g1820 rf1786 (fun w => by cases w) t1723 (by decide) eh1782
    have pr1886 : gNo [1, 32, 33, 34, 35, 36, 37, 38, 39, 40, 41, 42] ty1817 := gNo.gr g1820 (by decide +kernel) (gNo.sub (by decide +kernel) pr1780)
    have sS1887 : gSs rT 1027 ty1817 [8999, 10999, 31999] h1818 h1818 := gSs.rf g1820.1
    clear G1784 dd1788 pr1780 rf1786 rf1787 s1789 s1790 s1791 s1792 s1793 s1794 s1795 s1796 s1797 s1798 s1799 s1800 s1801 s1802 s1803 s1804 s1805 s1806 s1807 s1808 s1809 s1810 s1811 s1812 s1813 s1814 s1815 s1816 sS1785 t1723 t1724 t1725 t1726 t1727 t1728 t1729 t1730 t1731 t1732 t1733 t1734 t1735 t1736 t1737 t1738 t1739 t1740 t1741 t1742 t1743 t1744 t1745 t1746 t1747 t1748 t1749 t1750 t1751 uq1717
    refine gs_rput rfl (by decide) rfl sS1887.1 t1827 nx rw1823.2.1 rf1824 rfl (Or.inr rfl) (fun h1888 g1889 nh1888 mh1888 kh1888 zh1888 eh1888 fh1888 => ?_)
    have G1890 : gSg [1, 2, 3, 4, 5, 6, 7, 8, 9, 10, 11, 12, 13, 14, 15, 16, 17, 18, 19, 20, 21, 22, 23, 24, 25, 26, 27, 28, 29, 30, 31, 32, 33, 34, 35, 36, 37, 38, 39, 40, 41, 42, 200] [x] [8999, 10999, 31999] ty h ty1817 h1888 := gSg.tr (gSg.ss G1822 sS1887 (by decide)) g1889 (by decide) (by decide) (fun x hx => Or.inr hx)
    have sS1891 : gSs rT 1027 ty1817 [8999, 10999, 31999] h1888 h1888 := gSs.rf g1889.1
    have rf1892 := Nat.lt_of_lt_of_eq rw1823.2.1 nh1888.symm
    have rf1893 := zh1888.trans rf1825
    have dd1894 : ∀ k, ¬ k ∈ ([58, 57, 56, 55, 54, 49, 40, 38, 37, 36, 35, 34, 33, 32, 31, 30, 29, 28, 27, 26, 25, 15, 14, 13, 12, 11, 10, 9, 4, 2] : List Nat) → h1888.2.2.2.2 x k = defaultValue (gGG.2.1 12 k) := raw_dp fh1888 dd1826
    have s1895 := (fh1888 2 (by decide)).trans s1857
    have s1896 := (fh1888 4 (by decide)).trans s1858
    have s1897 := (fh1888 9 (by decide)).trans s1859
    have s1898 := (fh1888 10 (by decide)).trans s1860
    have s1899 := (fh1888 11 (by decide)).trans s1861
    have s1900 := (fh1888 12 (by decide)).trans s1862
    have s1901 := (fh1888 13 (by decide)).trans s1863
    have s1902 := (fh1888 14 (by decide)).trans s1864
    have s1903 := (fh1888 15 (by decide)).trans s1865
    have s1904 := (fh1888 25 (by decide)).trans s1866
    have s1905 := (fh1888 26 (by decide)).trans s1867
    have s1906 := (fh1888 27 (by decide)).trans s1868
    have s1907 := (fh1888 28 (by decide)).trans s1869
    have s1908 := (fh1888 29 (by decide)).trans s1870
    have s1909 := (fh1888 30 (by decide)).trans s1871
    have s1910 := (fh1888 31 (by decide)).trans s1872
    have s1911 := (fh1888 32 (by decide)).trans s1873
    have s1912 := (fh1888 33 (by decide)).trans s1874
    have s1913 := (fh1888 34 (by decide)).trans s1875
    have s1914 := (fh1888 35 (by decide)).trans s1876
    have s1915 := (fh1888 36 (by decide)).trans s1877
    have s1916 := (fh1888 37 (by decide)).trans s1878
    have s1917 := (fh1888 38 (by decide)).trans s1879
    have s1918 := (fh1888 40 (by decide)).trans s1880
    have s1919 := (fh1888 49 (by decide)).trans s1881
    have s1920 := (fh1888 54 (by decide)).trans s1882
    have s1921 := (fh1888 55 (by decide)).trans s1883
    have s1922 := (fh1888 56 (by decide)).trans s1884
    have s1923 := (fh1888 57 (by decide)).trans s1885
    clear G1822 dd1826 rf1824 rf1825 rw1823 s1857 s1858 s1859 s1860 s1861 s1862 s1863 s1864 s1865 s1866 s1867 s1868 s1869 s1870 s1871 s1872 s1873 s1874 s1875 s1876 s1877 s1878 s1879 s1880 s1881 s1882 s1883 s1884 s1885 sS1887
    refine gz_s 1 (pc' := 242) (L' := [some (.ref x), none, none, none, none]) (S' := [.ref x]) rfl ?_
    refine gz_1 rfl (by decide) rfl rfl (pc' := 244) (S' := [.int (zi 60000), .ref x]) (h' := h1888) rfl ?_
    refine gs_newr 32 rfl (by decide) rfl sS1891.1 (Nat.le_of_lt (Nat.lt_of_le_of_lt (gJ.cell sS1891.1 t1828 rfl).1 (gJ.cell sS1891.1 t1828 rfl).2.1)) (by omega) (by omega) rfl rfl (by show (60000 : Int) ≤ _; omega) (by show _ ≤ (60000 : Int); omega) (fun _ _ => gos_i (by decide) (by decide)) (fun ty1924 h1925 c1926 g1927 tc1926 lc1926 nc1926 mc1926 ec1926 dc1926 uc1926 => ?_)
    have gac1926 : h.1 ≤ c1926 := by have h8 := G1890.2.1; have h9 := sS1891.2.1; omega
    have uq1928 := uc1926 uq1821 (Or.inr (gNo.sub (by decide +kernel) pr1886))
    have G1929 : gSg [1, 2, 3, 4, 5, 6, 7, 8, 9, 10, 11, 12, 13, 14, 15, 16, 17, 18, 19, 20, 21, 22, 23, 24, 25, 26, 27, 28, 29, 30, 31, 32, 33, 34, 35, 36, 37, 38, 39, 40, 41, 42, 200] [x] [8999, 10999, 31999] ty h ty1924 h1925 := gSg.tr (gSg.ss G1890 sS1891 (by decide)) g1927 (by decide) (by decide) (fun x hx => by cases hx)
    have rw1930 := gSg.raw g1927 rf1892 (fun w => by cases w)
    have rf1931 := (rw1930.2.2.1.trans kh1888)
    have rf1932 := (rw1930.2.2.2.trans rf1893)
    have dd1933 := gSg.rawd (ci := 12) (ps := [58, 57, 56, 55, 54, 49, 40, 38, 37, 36, 35, 34, 33, 32, 31, 30, 29, 28, 27, 26, 25, 15, 14, 13, 12, 11, 10, 9, 4, 2]) g1927 rf1892 (fun w => by cases w) t1827 (by decide) dd1894
    have t1934 : ty1924 x = 200 := rw1930.1.trans t1827
    have t1935 : ty1924 c3 = 2 := gSg.typ g1927 sS1891.1 t1828 rTk_2
    have t1936 : ty1924 c23 = 3 := gSg.typ g1927 sS1891.1 t1829 rTk_3
    have t1937 : ty1924 c46 = 4 := gSg.typ g1927 sS1891.1 t1830 rTk_4
    have t1938 : ty1924 c72 = 5 := gSg.typ g1927 sS1891.1 t1831 rTk_5
    have t1939 : ty1924 c101 = 6 := gSg.typ g1927 sS1891.1 t1832 rTk_6
    have t1940 : ty1924 c133 = 7 := gSg.typ g1927 sS1891.1 t1833 rTk_7
    have t1941 : ty1924 c171 = 8 := gSg.typ g1927 sS1891.1 t1834 rTk_8
    have t1942 : ty1924 c209 = 9 := gSg.typ g1927 sS1891.1 t1835 rTk_9
    have t1943 : ty1924 c250 = 10 := gSg.typ g1927 sS1891.1 t1836 rTk_10
    have t1944 : ty1924 c294 = 11 := gSg.typ g1927 sS1891.1 t1837 rTk_11
    have t1945 : ty1924 c341 = 12 := gSg.typ g1927 sS1891.1 t1838 rTk_12
    have t1946 : ty1924 c391 = 13 := gSg.typ g1927 sS1891.1 t1839 rTk_13
    have t1947 : ty1924 c447 = 14 := gSg.typ g1927 sS1891.1 t1840 rTk_14
    have t1948 : ty1924 c503 = 15 := gSg.typ g1927 sS1891.1 t1841 rTk_15
    have t1949 : ty1924 c562 = 16 := gSg.typ g1927 sS1891.1 t1842 rTk_16
    have t1950 : ty1924 c624 = 17 := gSg.typ g1927 sS1891.1 t1843 rTk_17
    have t1951 : ty1924 c689 = 18 := gSg.typ g1927 sS1891.1 t1844 rTk_18
    have t1952 : ty1924 c760 = 19 := gSg.typ g1927 sS1891.1 t1845 rTk_19
    have t1953 : ty1924 c831 = 20 := gSg.typ g1927 sS1891.1 t1846 rTk_20
    have t1954 : ty1924 c905 = 21 := gSg.typ g1927 sS1891.1 t1847 rTk_21
    have t1955 : ty1924 c982 = 22 := gSg.typ g1927 sS1891.1 t1848 rTk_22
    have t1956 : ty1924 c1065 = 23 := gSg.typ g1927 sS1891.1 t1849 rTk_23
    have t1957 : ty1924 c1148 = 24 := gSg.typ g1927 sS1891.1 t1850 rTk_24
    have t1958 : ty1924 c1234 = 25 := gSg.typ g1927 sS1891.1 t1851 rTk_25
    have t1959 : ty1924 c1323 = 26 := gSg.typ g1927 sS1891.1 t1852 rTk_26
    have t1960 : ty1924 c1418 = 27 := gSg.typ g1927 sS1891.1 t1853 rTk_27
    have t1961 : ty1924 c1513 = 28 := gSg.typ g1927 sS1891.1 t1854 rTk_28
    have t1962 : ty1924 c1611 = 29 := gSg.typ g1927 sS1891.1 t1855 rTk_29
    have t1963 : ty1924 c1715 = 30 := gSg.typ g1927 sS1891.1 t1856 rTk_30
    have t1964 : ty1924 c1819 = 31 := gSg.typ g1927 sS1891.1 tc1819 rTk_31
    have s1965 := gSg.rawat g1927 rf1892 (fun w => by cases w) t1827 (by decide) s1895
    have s1966 := gSg.rawat g1927 rf1892 (fun w => by cases w) t1827 (by decide) s1896
    have s1967 := gSg.rawat g1927 rf1892 (fun w => by cases w) t1827 (by decide) s1897
    have s1968 := gSg.rawat g1927 rf1892 (fun w => by cases w) t1827 (by decide) s1898
    have s1969 := gSg.rawat g1927 rf1892 (fun w => by cases w) t1827 (by decide) s1899
    have s1970 := gSg.rawat g1927 rf1892 (fun w => by cases w) t1827 (by decide) s1900
    have s1971 := gSg.rawat g1927 rf1892 (fun w => by cases w) t1827 (by decide) s1901
    have s1972 := gSg.rawat g1927 rf1892 (fun w => by cases w) t1827 (by decide) s1902
    have s1973 := gSg.rawat g1927 rf1892 (fun w => by cases w) t1827 (by decide) s1903
    have s1974 := gSg.rawat g1927 rf1892 (fun w => by cases w) t1827 (by decide) s1904
    have s1975 := gSg.rawat g1927 rf1892 (fun w => by cases w) t1827 (by decide) s1905
    have s1976 := gSg.rawat g1927 rf1892 (fun w => by cases w) t1827 (by decide) s1906
    have s1977 := gSg.rawat g1927 rf1892 (fun w => by cases w) t1827 (by decide) s1907
    have s1978 := gSg.rawat g1927 rf1892 (fun w => by cases w) t1827 (by decide) s1908
    have s1979 := gSg.rawat g1927 rf1892 (fun w => by cases w) t1827 (by decide) s1909
    have s1980 := gSg.rawat g1927 rf1892 (fun w => by cases w) t1827 (by decide) s1910
    have s1981 := gSg.rawat g1927 rf1892 (fun w => by cases w) t1827 (by decide) s1911
    have s1982 := gSg.rawat g1927 rf1892 (fun w => by cases w) t1827 (by decide) s1912
    have s1983 := gSg.rawat g1927 rf1892 (fun w => by cases w) t1827 (by decide) s1913
    have s1984 := gSg.rawat g1927 rf1892 (fun w => by cases w) t1827 (by decide) s1914
    have s1985 := gSg.rawat g1927 rf1892 (fun w => by cases w) t1827 (by decide) s1915
    have s1986 := gSg.rawat g1927 rf1892 (fun w => by cases w) t1827 (by decide) s1916
    have s1987 := gSg.rawat g1927 rf1892 (fun w => by cases w) t1827 (by decide) s1917
    have s1988 := gSg.rawat g1927 rf1892 (fun w => by cases w) t1827 (by decide) s1918
    have s1989 := gSg.rawat g1927 rf1892 (fun w => by cases w) t1827 (by decide) s1919
    have s1990 := gSg.rawat g1927 rf1892 (fun w => by cases w) t1827 (by decide) s1920
    have s1991 := gSg.rawat g1927 rf1892 (fun w => by cases w) t1827 (by decide) s1921
    have s1992 := gSg.rawat g1927 rf1892 (fun w => by cases w) t1827 (by decide) s1922
    have s1993 := gSg.rawat g1927 rf1892 (fun w => by cases w) t1827 (by decide) s1923
    have s1994 := gSg.rawat g1927 rf1892 (fun w => by cases w) t1827 (by decide) eh1888
    have pr1995 : gNo [1, 33, 34, 35, 36, 37, 38, 39, 40, 41, 42] ty1924 := gNo.gr g1927 (by decide +kernel) (gNo.sub (by decide +kernel) pr1886)
    have sS1996 : gSs rT 1027 ty1924 [8999, 10999, 31999] h1925 h1925 := gSs.rf g1927.1
    clear G1890 dd1894 pr1886 rf1892 rf1893 s1895 s1896 s1897 s1898 s1899 s1900 s1901 s1902 s1903 s1904 s1905 s1906 s1907 s1908 s1909 s1910 s1911 s1912 s1913 s1914 s1915 s1916 s1917 s1918 s1919 s1920 s1921 s1922 s1923 sS1891 t1827 t1828 t1829 t1830 t1831 t1832 t1833 t1834 t1835 t1836 t1837 t1838 t1839 t1840 t1841 t1842 t1843 t1844 t1845 t1846 t1847 t1848 t1849 t1850 t1851 t1852 t1853 t1854 t1855 t1856 uq1821
    refine gs_rput rfl (by decide) rfl sS1996.1 t1934 nx rw1930.2.1 rf1931 rfl (Or.inr rfl) (fun h1997 g1998 nh1997 mh1997 kh1997 zh1997 eh1997 fh1997 => ?_)
    have G1999 : gSg [1, 2, 3, 4, 5, 6, 7, 8, 9, 10, 11, 12, 13, 14, 15, 16, 17, 18, 19, 20, 21, 22, 23, 24, 25, 26, 27, 28, 29, 30, 31, 32, 33, 34, 35, 36, 37, 38, 39, 40, 41, 42, 200] [x] [8999, 10999, 31999] ty h ty1924 h1997 := gSg.tr (gSg.ss G1929 sS1996 (by decide)) g1998 (by decide) (by decide) (fun x hx => Or.inr hx)
    have sS2000 : gSs rT 1027 ty1924 [8999, 10999, 31999] h1997 h1997 := gSs.rf g1998.1
    have rf2001 := Nat.lt_of_lt_of_eq rw1930.2.1 nh1997.symm
    have rf2002 := zh1997.trans rf1932
    have dd2003 : ∀ k, ¬ k ∈ ([60, 58, 57, 56, 55, 54, 49, 40, 38, 37, 36, 35, 34, 33, 32, 31, 30, 29, 28, 27, 26, 25, 15, 14, 13, 12, 11, 10, 9, 4, 2] : List Nat) → h1997.2.2.2.2 x k = defaultValue (gGG.2.1 12 k) := raw_dp fh1997 dd1933
    have s2004 := (fh1997 2 (by decide)).trans s1965
    have s2005 := (fh1997 4 (by decide)).trans s1966
    have s2006 := (fh1997 9 (by decide)).trans s1967
    have s2007 := (fh1997 10 (by decide)).trans s1968
    have s2008 := (fh1997 11 (by decide)).trans s1969
    have s2009 := (fh1997 12 (by decide)).trans s1970
    have s2010 := (fh1997 13 (by decide)).trans s1971
    have s2011 := (fh1997 14 (by decide)).trans s1972
    have s2012 := (fh1997 15 (by decide)).trans s1973
    have s2013 := (fh1997 25 (by decide)).trans s1974
    have s2014 := (fh1997 26 (by decide)).trans s1975
    have s2015 := (fh1997 27 (by decide)).trans s1976
    have s2016 := (fh1997 28 (by decide)).trans s1977
    have s2017 := (fh1997 29 (by decide)).trans s1978
    have s2018 := (fh1997 30 (by decide)).trans s1979
    have s2019 := (fh1997 31 (by decide)).trans s1980
    have s2020 := (fh1997 32 (by decide)).trans s1981
    have s2021 := (fh1997 33 (by decide)).trans s1982
    have s2022 := (fh1997 34 (by decide)).trans s1983
    have s2023 := (fh1997 35 (by decide)).trans s1984
    have s2024 := (fh1997 36 (by decide)).trans s1985
    have s2025 := (fh1997 37 (by decide)).trans s1986
    have s2026 := (fh1997 38 (by decide)).trans s1987
    have s2027 := (fh1997 40 (by decide)).trans s1988
    have s2028 := (fh1997 49 (by decide)).trans s1989
    have s2029 := (fh1997 54 (by decide)).trans s1990
    have s2030 := (fh1997 55 (by decide)).trans s1991
    have s2031 := (fh1997 56 (by decide)).trans s1992
    have s2032 := (fh1997 57 (by decide)).trans s1993
    have s2033 := (fh1997 58 (by decide)).trans s1994
    clear G1929 dd1933 rf1931 rf1932 rw1930 s1965 s1966 s1967 s1968 s1969 s1970 s1971 s1972 s1973 s1974 s1975 s1976 s1977 s1978 s1979 s1980 s1981 s1982 s1983 s1984 s1985 s1986 s1987 s1988 s1989 s1990 s1991 s1992 s1993 s1994 sS1996
    have lp2034 := cmlp2034 d hJ x nx c3 c23 c46 c72 c101 c133 c171 c209 c250 c294 c341 c391 c447 c503 c562 c624 c689 c760 c831 c905 c982 c1065 c1148 c1234 c1323 c1418 c1513 c1611 c1715 c1819 c1926
    have G3571 : gSg [1, 2, 3, 4, 5, 6, 7, 8, 9, 10, 11, 12, 13, 14, 15, 16, 17, 18, 19, 20, 21, 22, 23, 24, 25, 26, 27, 28, 29, 30, 31, 32, 33, 34, 35, 36, 37, 38, 39, 40, 41, 42, 200] [x] [8999, 10999, 31999] ty h ty1924 h1997 := gSg.ss G1999 sS2000 (by decide)
    exact gz_wk (lp2034 _ ty1924 h1997  (Nat.lt_succ_self _) G3571 uq1928 t1934 t1935 t1936 t1937 t1938 t1939 t1940 t1941 t1942 t1943 t1944 t1945 t1946 t1947 t1948 t1949 t1950 t1951 t1952 t1953 t1954 t1955 t1956 t1957 t1958 t1959 t1960 t1961 t1962 t1963 t1964 tc1926 (by omega) (by omega) s2004 s2005 s2006 s2007 s2008 s2009 s2010 s2011 s2012 s2013 s2014 s2015 s2016 s2017 s2018 s2019 s2020 s2021 s2022 s2023 s2024 s2025 s2026 s2027 s2028 s2029 s2030 s2031 s2032 s2033 eh1997 pr1995 rf2001 kh1997 rf2002 dd2003) (gLw.s (gLw.n (gLw.n (gLw.n (gLw.n gLw.z)))))
set_option maxRecDepth 20000 in
set_option maxHeartbeats 4000000 in
theorem cmlp1413 (d : Nat) {ty : Nat → Nat} {h : gH} (hJ : gJ rT 1027 ty h) (x : Nat) (nx : 1027 ≤ x) (c3 c23 c46 c72 c101 c133 c171 c209 c250 c294 c341 c391 c447 c503 c562 c624 c689 c760 c831 c905 c982 c1065 c1148 c1234 c1323 : Nat) : ∀ (fu : Nat) (ty1415 : Nat → Nat) (h1414 : gH), ((1 : Int)).toNat < fu → gSg [1, 2, 3, 4, 5, 6, 7, 8, 9, 10, 11, 12, 13, 14, 15, 16, 17, 18, 19, 20, 21, 22, 23, 24, 25, 26, 27, 28, 29, 30, 31, 32, 33, 34, 35, 36, 37, 38, 39, 40, 41, 42, 200] [x] [8999, 10999, 31999] ty h ty1415 h1414 → gUq ty1415 → ty1415 x = 200 → ty1415 c3 = 2 → ty1415 c23 = 3 → ty1415 c46 = 4 → ty1415 c72 = 5 → ty1415 c101 = 6 → ty1415 c133 = 7 → ty1415 c171 = 8 → ty1415 c209 = 9 → ty1415 c250 = 10 → ty1415 c294 = 11 → ty1415 c341 = 12 → ty1415 c391 = 13 → ty1415 c447 = 14 → ty1415 c503 = 15 → ty1415 c562 = 16 → ty1415 c624 = 17 → ty1415 c689 = 18 → ty1415 c760 = 19 → ty1415 c831 = 20 → ty1415 c905 = 21 → ty1415 c982 = 22 → ty1415 c1065 = 23 → ty1415 c1148 = 24 → ty1415 c1234 = 25 → ty1415 c1323 = 26 → ((h1414.1 : Int) = h.1 + 25) → ((h1414.2.1 : Int) = h.2.1 + 24295) → h1414.2.2.2.2 x 2 = .ref c3 → h1414.2.2.2.2 x 4 = .ref c23 → h1414.2.2.2.2 x 9 = .ref c46 → h1414.2.2.2.2 x 10 = .ref c72 → h1414.2.2.2.2 x 11 = .ref c101 → h1414.2.2.2.2 x 12 = .ref c133 → h1414.2.2.2.2 x 13 = .ref c171 → h1414.2.2.2.2 x 14 = .ref c209 → h1414.2.2.2.2 x 15 = .ref c250 → h1414.2.2.2.2 x 25 = .ref c294 → h1414.2.2.2.2 x 26 = .ref c341 → h1414.2.2.2.2 x 27 = .ref c391 → h1414.2.2.2.2 x 28 = .ref c447 → h1414.2.2.2.2 x 29 = .ref c503 → h1414.2.2.2.2 x 30 = .ref c562 → h1414.2.2.2.2 x 31 = .ref c624 → h1414.2.2.2.2 x 32 = .ref c689 → h1414.2.2.2.2 x 33 = .ref c760 → h1414.2.2.2.2 x 34 = .ref c831 → h1414.2.2.2.2 x 35 = .ref c905 → h1414.2.2.2.2 x 36 = .ref c982 → h1414.2.2.2.2 x 37 = .ref c1065 → h1414.2.2.2.2 x 38 = .ref c1148 → h1414.2.2.2.2 x 40 = .ref c1234 → h1414.2.2.2.2 x 49 = .ref c1323 → gNo [1, 27, 28, 29, 30, 31, 32, 33, 34, 35, 36, 37, 38, 39, 40, 41, 42] ty1415 → x < h1414.1 → h1414.2.2.1 x = some (.inr 12) → h1414.2.2.2.1 x = 0 → (∀ k, ¬ k ∈ ([49, 40, 38, 37, 36, 35, 34, 33, 32, 31, 30, 29, 28, 27, 26, 25, 15, 14, 13, 12, 11, 10, 9, 4, 2] : List Nat) → h1414.2.2.2.2 x k = defaultValue (gGG.2.1 12 k)) → gz gPP gGG gcn (d + 1) gt130 201 [some (.ref x), none, none, none, none] [] h1414 (fun q _ => ∃ ty9 : Nat → Nat, gSg [1, 2, 3, 4, 5, 6, 7, 8, 9, 10, 11, 12, 13, 14, 15, 16, 17, 18, 19, 20, 21, 22, 23, 24, 25, 26, 27, 28, 29, 30, 31, 32, 33, 34, 35, 36, 37, 38, 39, 40, 41, 42, 200] [x] [8999, 10999, 31999] ty h ty9 q.2.2 ∧ ∃ ip n1 cw ch iv1 : Int, ty9 x = 1 ∧ gfin gt130 q.1 q.2.1 = some none ∧ q.2.2.2.2.2.2 x 16 = .int (zi ip) ∧ 0 ≤ ip ∧ ip ≤ 1 ∧ q.2.2.2.2.2.2 x 53 = .int (zi n1) ∧ 0 ≤ n1 ∧ n1 ≤ 10 ∧ q.2.2.2.2.2.2 x 50 = .int (zi cw) ∧ 0 ≤ cw ∧ cw ≤ 32 ∧ q.2.2.2.2.2.2 x 51 = .int (zi ch) ∧ 0 ≤ ch ∧ ch ≤ 32 ∧ q.2.2.2.2.2.2 x 52 = .int (zi iv1) ∧ 0 ≤ iv1 ∧ iv1 ≤ 100 ∧ (ip = 0) ∧ (n1 = 0) ∧ (cw = 0) ∧ (ch = 0) ∧ (iv1 = 0) ∧ ((q.2.2.1 : Int) = h.1 + 41) ∧ ((q.2.2.2.1 : Int) = h.2.1 + 88652) ∧ (gTs ty9 0 q.2.2) ∧ (gOy ty9 31 (-1) 64 q.2.2) ∧ gUq ty9) := by
  intro fu
  induction fu with
  | zero => intro ty1415 h1414  hm; exact absurd hm (Nat.not_lt_zero _)
  | succ fu ihlp1413 =>
    intro ty1415 h1414  lp1413m lp1413G lp1413u lp1413c0 lp1413c1 lp1413c2 lp1413c3 lp1413c4 lp1413c5 lp1413c6 lp1413c7 lp1413c8 lp1413c9 lp1413c10 lp1413c11 lp1413c12 lp1413c13 lp1413c14 lp1413c15 lp1413c16 lp1413c17 lp1413c18 lp1413c19 lp1413c20 lp1413c21 lp1413c22 lp1413c23 lp1413c24 lp1413c25 lp1413f0 lp1413f1 lp1413k0 lp1413k1 lp1413k2 lp1413k3 lp1413k4 lp1413k5 lp1413k6 lp1413k7 lp1413k8 lp1413k9 lp1413k10 lp1413k11 lp1413k12 lp1413k13 lp1413k14 lp1413k15 lp1413k16 lp1413k17 lp1413k18 lp1413k19 lp1413k20 lp1413k21 lp1413k22 lp1413k23 lp1413k24 lp1413k25 lp1413w0 lp1413w1 lp1413w2 lp1413w3
    have sh1414 : gSs rT 1027 ty1415 [8999, 10999, 31999] h1414 h1414 := gSs.rf lp1413G.1
    refine gz_s 2 (pc' := 204) (L' := [some (.ref x), none, none, none, none]) (S' := [.int (zi 10), .ref x]) rfl ?_
    refine gs_newr 27 rfl (by decide) rfl sh1414.1 (Nat.le_of_lt (Nat.lt_of_le_of_lt (gJ.cell sh1414.1 lp1413c1 rfl).1 (gJ.cell sh1414.1 lp1413c1 rfl).2.1)) (by omega) (by omega) rfl rfl (by show (10 : Int) ≤ _; omega) (by show _ ≤ (10 : Int); omega) (fun _ _ => gos_i (by decide) (by decide)) (fun ty1416 h1417 c1418 g1419 tc1418 lc1418 nc1418 mc1418 ec1418 dc1418 uc1418 => ?_)
    have gac1418 : h.1 ≤ c1418 := by have h8 := lp1413G.2.1; have h9 := sh1414.2.1; omega
    have uq1420 := uc1418 lp1413u (Or.inr (gNo.sub (by decide +kernel) lp1413k25))
    have G1421 : gSg [1, 2, 3, 4, 5, 6, 7, 8, 9, 10, 11, 12, 13, 14, 15, 16, 17, 18, 19, 20, 21, 22, 23, 24, 25, 26, 27, 28, 29, 30, 31, 32, 33, 34, 35, 36, 37, 38, 39, 40, 41, 42, 200] [x] [8999, 10999, 31999] ty h ty1416 h1417 := gSg.tr (gSg.ss lp1413G sh1414 (by decide)) g1419 (by decide) (by decide) (fun x hx => by cases hx)
    have rw1422 := gSg.raw g1419 lp1413w0 (fun w => by cases w)
    have rf1423 := (rw1422.2.2.1.trans lp1413w1)
    have rf1424 := (rw1422.2.2.2.trans lp1413w2)
    have dd1425 := gSg.rawd (ci := 12) (ps := [49, 40, 38, 37, 36, 35, 34, 33, 32, 31, 30, 29, 28, 27, 26, 25, 15, 14, 13, 12, 11, 10, 9, 4, 2]) g1419 lp1413w0 (fun w => by cases w) lp1413c0 (by decide) lp1413w3
    have t1426 : ty1416 x = 200 := rw1422.1.trans lp1413c0
    have t1427 : ty1416 c3 = 2 := gSg.typ g1419 sh1414.1 lp1413c1 rTk_2
    have t1428 : ty1416 c23 = 3 := gSg.typ g1419 sh1414.1 lp1413c2 rTk_3
    have t1429 : ty1416 c46 = 4 := gSg.typ g1419 sh1414.1 lp1413c3 rTk_4
    have t1430 : ty1416 c72 = 5 := gSg.typ g1419 sh1414.1 lp1413c4 rTk_5
    have t1431 : ty1416 c101 = 6 := gSg.typ g1419 sh1414.1 lp1413c5 rTk_6
    have t1432 : ty1416 c133 = 7 := gSg.typ g1419 sh1414.1 lp1413c6 rTk_7
    have t1433 : ty1416 c171 = 8 := gSg.typ g1419 sh1414.1 lp1413c7 rTk_8
    have t1434 : ty1416 c209 = 9 := gSg.typ g1419 sh1414.1 lp1413c8 rTk_9
    have t1435 : ty1416 c250 = 10 := gSg.typ g1419 sh1414.1 lp1413c9 rTk_10
    have t1436 : ty1416 c294 = 11 := gSg.typ g1419 sh1414.1 lp1413c10 rTk_11
    have t1437 : ty1416 c341 = 12 := gSg.typ g1419 sh1414.1 lp1413c11 rTk_12
    have t1438 : ty1416 c391 = 13 := gSg.typ g1419 sh1414.1 lp1413c12 rTk_13
    have t1439 : ty1416 c447 = 14 := gSg.typ g1419 sh1414.1 lp1413c13 rTk_14
    have t1440 : ty1416 c503 = 15 := gSg.typ g1419 sh1414.1 lp1413c14 rTk_15
    have t1441 : ty1416 c562 = 16 := gSg.typ g1419 sh1414.1 lp1413c15 rTk_16
    have t1442 : ty1416 c624 = 17 := gSg.typ g1419 sh1414.1 lp1413c16 rTk_17
    have t1443 : ty1416 c689 = 18 := gSg.typ g1419 sh1414.1 lp1413c17 rTk_18
    have t1444 : ty1416 c760 = 19 := gSg.typ g1419 sh1414.1 lp1413c18 rTk_19
    have t1445 : ty1416 c831 = 20 := gSg.typ g1419 sh1414.1 lp1413c19 rTk_20
    have t1446 : ty1416 c905 = 21 := gSg.typ g1419 sh1414.1 lp1413c20 rTk_21
    have t1447 : ty1416 c982 = 22 := gSg.typ g1419 sh1414.1 lp1413c21 rTk_22
    have t1448 : ty1416 c1065 = 23 := gSg.typ g1419 sh1414.1 lp1413c22 rTk_23
    have t1449 : ty1416 c1148 = 24 := gSg.typ g1419 sh1414.1 lp1413c23 rTk_24
    have t1450 : ty1416 c1234 = 25 := gSg.typ g1419 sh1414.1 lp1413c24 rTk_25
    have t1451 : ty1416 c1323 = 26 := gSg.typ g1419 sh1414.1 lp1413c25 rTk_26
    have s1452 := gSg.rawat g1419 lp1413w0 (fun w => by cases w) lp1413c0 (by decide) lp1413k0
    have s1453 := gSg.rawat g1419 lp1413w0 (fun w => by cases w) lp1413c0 (by decide) lp1413k1
    have s1454 := gSg.rawat g1419 lp1413w0 (fun w => by cases w) lp1413c0 (by decide) lp1413k2
    have s1455 := gSg.rawat g1419 lp1413w0 (fun w => by cases w) lp1413c0 (by decide) lp1413k3
    have s1456 := gSg.rawat g1419 lp1413w0 (fun w => by cases w) lp1413c0 (by decide) lp1413k4
    have s1457 := gSg.rawat g1419 lp1413w0 (fun w => by cases w) lp1413c0 (by decide) lp1413k5
    have s1458 := gSg.rawat g1419 lp1413w0 (fun w => by cases w) lp1413c0 (by decide) lp1413k6
    have s1459 := gSg.rawat g1419 lp1413w0 (fun w => by cases w) lp1413c0 (by decide) lp1413k7
    have s1460 := gSg.rawat g1419 lp1413w0 (fun w => by cases w) lp1413c0 (by decide) lp1413k8
    have s1461 := gSg.rawat g1419 lp1413w0 (fun w => by cases w) lp1413c0 (by decide) lp1413k9
    have s1462 := gSg.rawat g1419 lp1413w0 (fun w => by cases w) lp1413c0 (by decide) lp1413k10
    have s1463 := gSg.rawat g1419 lp1413w0 (fun w => by cases w) lp1413c0 (by decide) lp1413k11
    have s1464 := gSg.rawat g1419 lp1413w0 (fun w => by cases w) lp1413c0 (by decide) lp1413k12
    have s1465 := gSg.rawat g1419 lp1413w0 (fun w => by cases w) lp1413c0 (by decide) lp1413k13
    have s1466 := gSg.rawat g1419 lp1413w0 (fun w => by cases w) lp1413c0 (by decide) lp1413k14
    have s1467 := gSg.rawat g1419 lp1413w0 (fun w => by cases w) lp1413c0 (by decide) lp1413k15
    have s1468 := gSg.rawat g1419 lp1413w0 (fun w => by cases w) lp1413c0 (by decide) lp1413k16
    have s1469 := gSg.rawat g1419 lp1413w0 (fun w => by cases w) lp1413c0 (by decide) lp1413k17
    have s1470 := gSg.rawat g1419 lp1413w0 (fun w => by cases w) lp1413c0 (by decide) lp1413k18
    have s1471 := gSg.rawat g1419 lp1413w0 (fun w => by cases w) lp1413c0 (by decide) lp1413k19
    have s1472 := gSg.rawat g1419 lp1413w0 (fun w => by cases w) lp1413c0 (by decide) lp1413k20
    have s1473 := gSg.rawat g1419 lp1413w0 (fun w => by cases w) lp1413c0 (by decide) lp1413k21
    have s1474 := gSg.rawat g1419 lp1413w0 (fun w => by cases w) lp1413c0 (by decide) lp1413k22
    have s1475 := gSg.rawat g1419 lp1413w0 (fun w => by cases w) lp1413c0 (by decide) lp1413k23
    have s1476 := gSg.rawat g1419 lp1413w0 (fun w => by cases w) lp1413c0 (by decide) lp1413k24
    have pr1477 : gNo [1, 28, 29, 30, 31, 32, 33, 34, 35, 36, 37, 38, 39, 40, 41, 42] ty1416 := gNo.gr g1419 (by decide +kernel) (gNo.sub (by decide +kernel) lp1413k25)
    have sS1478 : gSs rT 1027 ty1416 [8999, 10999, 31999] h1417 h1417 := gSs.rf g1419.1
    refine gs_rput rfl (by decide) rfl sS1478.1 t1426 nx rw1422.2.1 rf1423 rfl (Or.inr rfl) (fun h1479 g1480 nh1479 mh1479 kh1479 zh1479 eh1479 fh1479 => ?_)
    have G1481 : gSg [1, 2, 3, 4, 5, 6, 7, 8, 9, 10, 11, 12, 13, 14, 15, 16, 17, 18, 19, 20, 21, 22, 23, 24, 25, 26, 27, 28, 29, 30, 31, 32, 33, 34, 35, 36, 37, 38, 39, 40, 41, 42, 200] [x] [8999, 10999, 31999] ty h ty1416 h1479 := gSg.tr (gSg.ss G1421 sS1478 (by decide)) g1480 (by decide) (by decide) (fun x hx => Or.inr hx)
    have sS1482 : gSs rT 1027 ty1416 [8999, 10999, 31999] h1479 h1479 := gSs.rf g1480.1
    have rf1483 := Nat.lt_of_lt_of_eq rw1422.2.1 nh1479.symm
    have rf1484 := zh1479.trans rf1424
    have dd1485 : ∀ k, ¬ k ∈ ([54, 49, 40, 38, 37, 36, 35, 34, 33, 32, 31, 30, 29, 28, 27, 26, 25, 15, 14, 13, 12, 11, 10, 9, 4, 2] : List Nat) → h1479.2.2.2.2 x k = defaultValue (gGG.2.1 12 k) := raw_dp fh1479 dd1425
    have s1486 := (fh1479 2 (by decide)).trans s1452
    have s1487 := (fh1479 4 (by decide)).trans s1453
    have s1488 := (fh1479 9 (by decide)).trans s1454
    have s1489 := (fh1479 10 (by decide)).trans s1455
    have s1490 := (fh1479 11 (by decide)).trans s1456
    have s1491 := (fh1479 12 (by decide)).trans s1457
    have s1492 := (fh1479 13 (by decide)).trans s1458
    have s1493 := (fh1479 14 (by decide)).trans s1459
    have s1494 := (fh1479 15 (by decide)).trans s1460
    have s1495 := (fh1479 25 (by decide)).trans s1461
    have s1496 := (fh1479 26 (by decide)).trans s1462
    have s1497 := (fh1479 27 (by decide)).trans s1463
    have s1498 := (fh1479 28 (by decide)).trans s1464
    have s1499 := (fh1479 29 (by decide)).trans s1465
    have s1500 := (fh1479 30 (by decide)).trans s1466
    have s1501 := (fh1479 31 (by decide)).trans s1467
    have s1502 := (fh1479 32 (by decide)).trans s1468
    have s1503 := (fh1479 33 (by decide)).trans s1469
    have s1504 := (fh1479 34 (by decide)).trans s1470
    have s1505 := (fh1479 35 (by decide)).trans s1471
    have s1506 := (fh1479 36 (by decide)).trans s1472
    have s1507 := (fh1479 37 (by decide)).trans s1473
    have s1508 := (fh1479 38 (by decide)).trans s1474
    have s1509 := (fh1479 40 (by decide)).trans s1475
    have s1510 := (fh1479 49 (by decide)).trans s1476
    clear G1421 dd1425 rf1423 rf1424 rw1422 s1452 s1453 s1454 s1455 s1456 s1457 s1458 s1459 s1460 s1461 s1462 s1463 s1464 s1465 s1466 s1467 s1468 s1469 s1470 s1471 s1472 s1473 s1474 s1475 s1476 sS1478
    refine gz_s 2 (pc' := 212) (L' := [some (.ref x), none, none, none, none]) (S' := [.int (zi 10), .ref x]) rfl ?_
    refine gs_newr 28 rfl (by decide) rfl sS1482.1 (Nat.le_of_lt (Nat.lt_of_le_of_lt (gJ.cell sS1482.1 t1427 rfl).1 (gJ.cell sS1482.1 t1427 rfl).2.1)) (by omega) (by omega) rfl rfl (by show (10 : Int) ≤ _; omega) (by show _ ≤ (10 : Int); omega) (fun _ _ => gos_i (by decide) (by decide)) (fun ty1511 h1512 c1513 g1514 tc1513 lc1513 nc1513 mc1513 ec1513 dc1513 uc1513 => ?_)
    have gac1513 : h.1 ≤ c1513 := by have h8 := G1481.2.1; have h9 := sS1482.2.1; omega
    have uq1515 := uc1513 uq1420 (Or.inr (gNo.sub (by decide +kernel) pr1477))
    have G1516 : gSg [1, 2, 3, 4, 5, 6, 7, 8, 9, 10, 11, 12, 13, 14, 15, 16, 17, 18, 19, 20, 21, 22, 23, 24, 25, 26, 27, 28, 29, 30, 31, 32, 33, 34, 35, 36, 37, 38, 39, 40, 41, 42, 200] [x] [8999, 10999, 31999] ty h ty1511 h1512 := gSg.tr (gSg.ss G1481 sS1482 (by decide)) g1514 (by decide) (by decide) (fun x hx => by cases hx)
    have rw1517 := gSg.raw g1514 rf1483 (fun w => by cases w)
    have rf1518 := (rw1517.2.2.1.trans kh1479)
    have rf1519 := (rw1517.2.2.2.trans rf1484)
    have dd1520 := gSg.rawd (ci := 12) (ps := [54, 49, 40, 38, 37, 36, 35, 34, 33, 32, 31, 30, 29, 28, 27, 26, 25, 15, 14, 13, 12, 11, 10, 9, 4, 2]) g1514 rf1483 (fun w => by cases w) t1426 (by decide) dd1485
    have t1521 : ty1511 x = 200 := rw1517.1.trans t1426
    have t1522 : ty1511 c3 = 2 := gSg.typ g1514 sS1482.1 t1427 rTk_2
    have t1523 : ty1511 c23 = 3 := gSg.typ g1514 sS1482.1 t1428 rTk_3
    have t1524 : ty1511 c46 = 4 := gSg.typ g1514 sS1482.1 t1429 rTk_4
    have t1525 : ty1511 c72 = 5 := gSg.typ g1514 sS1482.1 t1430 rTk_5
    have t1526 : ty1511 c101 = 6 := gSg.typ g1514 sS1482.1 t1431 rTk_6
    have t1527 : ty1511 c133 = 7 := gSg.typ g1514 sS1482.1 t1432 rTk_7
    have t1528 : ty1511 c171 = 8 := gSg.typ g1514 sS1482.1 t1433 rTk_8
    have t1529 : ty1511 c209 = 9 := gSg.typ g1514 sS1482.1 t1434 rTk_9
    have t1530 : ty1511 c250 = 10 := gSg.typ g1514 sS1482.1 t1435 rTk_10
    have t1531 : ty1511 c294 = 11 := gSg.typ g1514 sS1482.1 t1436 rTk_11
    have t1532 : ty1511 c341 = 12 := gSg.typ g1514 sS1482.1 t1437 rTk_12
    have t1533 : ty1511 c391 = 13 := gSg.typ g1514 sS1482.1 t1438 rTk_13
    have t1534 : ty1511 c447 = 14 := gSg.typ g1514 sS1482.1 t1439 rTk_14
    have t1535 : ty1511 c503 = 15 := gSg.typ g1514 sS1482.1 t1440 rTk_15
    have t1536 : ty1511 c562 = 16 := gSg.typ g1514 sS1482.1 t1441 rTk_16
    have t1537 : ty1511 c624 = 17 := gSg.typ g1514 sS1482.1 t1442 rTk_17
    have t1538 : ty1511 c689 = 18 := gSg.typ g1514 sS1482.1 t1443 rTk_18
    have t1539 : ty1511 c760 = 19 := gSg.typ g1514 sS1482.1 t1444 rTk_19
    have t1540 : ty1511 c831 = 20 := gSg.typ g1514 sS1482.1 t1445 rTk_20
    have t1541 : ty1511 c905 = 21 := gSg.typ g1514 sS1482.1 t1446 rTk_21
    have t1542 : ty1511 c982 = 22 := gSg.typ g1514 sS1482.1 t1447 rTk_22
    have t1543 : ty1511 c1065 = 23 := gSg.typ g1514 sS1482.1 t1448 rTk_23
    have t1544 : ty1511 c1148 = 24 := gSg.typ g1514 sS1482.1 t1449 rTk_24
    have t1545 : ty1511 c1234 = 25 := gSg.typ g1514 sS1482.1 t1450 rTk_25
    have t1546 : ty1511 c1323 = 26 := gSg.typ g1514 sS1482.1 t1451 rTk_26
    have t1547 : ty1511 c1418 = 27 := gSg.typ g1514 sS1482.1 tc1418 rTk_27
    have s1548 := gSg.rawat g1514 rf1483 (fun w => by cases w) t1426 (by decide) s1486
    have s1549 := gSg.rawat g1514 rf1483 (fun w => by cases w) t1426 (by decide) s1487
    have s1550 := gSg.rawat g1514 rf1483 (fun w => by cases w) t1426 (by decide) s1488
    have s1551 := gSg.rawat g1514 rf1483 (fun w => by cases w) t1426 (by decide) s1489
    have s1552 := gSg.rawat g1514 rf1483 (fun w => by cases w) t1426 (by decide) s1490
    have s1553 := gSg.rawat g1514 rf1483 (fun w => by cases w) t1426 (by decide) s1491
    have s1554 := gSg.rawat g1514 rf1483 (fun w => by cases w) t1426 (by decide) s1492
    have s1555 := gSg.rawat g1514 rf1483 (fun w => by cases w) t1426 (by decide) s1493
    have s1556 := gSg.rawat g1514 rf1483 (fun w => by cases w) t1426 (by decide) s1494
    have s1557 := gSg.rawat g1514 rf1483 (fun w => by cases w) t1426 (by decide) s1495
    have s1558 := gSg.rawat g1514 rf1483 (fun w => by cases w) t1426 (by decide) s1496
    have s1559 := gSg.rawat g1514 rf1483 (fun w => by cases w) t1426 (by decide) s1497
    have s1560 := gSg.rawat g1514 rf1483 (fun w => by cases w) t1426 (by decide) s1498
    have s1561 := gSg.rawat g1514 rf1483 (fun w => by cases w) t1426 (by decide) s1499
    have s1562 := gSg.rawat g1514 rf1483 (fun w => by cases w) t1426 (by decide) s1500
    have s1563 := gSg.rawat g1514 rf1483 (fun w => by cases w) t1426 (by decide) s1501
    have s1564 := gSg.rawat g1514 rf1483 (fun w => by cases w) t1426 (by decide) s1502
    have s1565 := gSg.rawat g1514 rf1483 (fun w => by cases w) t1426 (by decide) s1503
    have s1566 := gSg.rawat g1514 rf1483 (fun w => by cases w) t1426 (by decide) s1504
    have s1567 := gSg.rawat g1514 rf1483 (fun w => by cases w) t1426 (by decide) s1505
    have s1568 := gSg.rawat g1514 rf1483 (fun w => by cases w) t1426 (by decide) s1506
    have s1569 := gSg.rawat g1514 rf1483 (fun w => by cases w) t1426 (by decide) s1507
    have s1570 := gSg.rawat g1514 rf1483 (fun w => by cases w) t1426 (by decide) s1508
    have s1571 := gSg.rawat g1514 rf1483 (fun w => by cases w) t1426 (by decide) s1509
    have s1572 := gSg.rawat g1514 rf1483 (fun w => by cases w) t1426 (by decide) s1510
    have s1573 := gSg.rawat g1514 rf1483 (fun w => by cases w) t1426 (by decide) eh1479
    have pr1574 : gNo [1, 29, 30, 31, 32, 33, 34, 35, 36, 37, 38, 39, 40, 41, 42] ty1511 := gNo.gr g1514 (by decide +kernel) (gNo.sub (by decide +kernel) pr1477)
    have sS1575 : gSs rT 1027 ty1511 [8999, 10999, 31999] h1512 h1512 := gSs.rf g1514.1
    clear G1481 dd1485 pr1477 rf1483 rf1484 s1486 s1487 s1488 s1489 s1490 s1491 s1492 s1493 s1494 s1495 s1496 s1497 s1498 s1499 s1500 s1501 s1502 s1503 s1504 s1505 s1506 s1507 s1508 s1509 s1510 sS1482 t1426 t1427 t1428 t1429 t1430 t1431 t1432 t1433 t1434 t1435 t1436 t1437 t1438 t1439 t1440 t1441 t1442 t1443 t1444 t1445 t1446 t1447 t1448 t1449 t1450 t1451 uq1420
    refine gs_rput rfl (by decide) rfl sS1575.1 t1521 nx rw1517.2.1 rf1518 rfl (Or.inr rfl) (fun h1576 g1577 nh1576 mh1576 kh1576 zh1576 eh1576 fh1576 => ?_)
    have G1578 : gSg [1, 2, 3, 4, 5, 6, 7, 8, 9, 10, 11, 12, 13, 14, 15, 16, 17, 18, 19, 20, 21, 22, 23, 24, 25, 26, 27, 28, 29, 30, 31, 32, 33, 34, 35, 36, 37, 38, 39, 40, 41, 42, 200] [x] [8999, 10999, 31999] ty h ty1511 h1576 := gSg.tr (gSg.ss G1516 sS1575 (by decide)) g1577 (by decide) (by decide) (fun x hx => Or.inr hx)
    have sS1579 : gSs rT 1027 ty1511 [8999, 10999, 31999] h1576 h1576 := gSs.rf g1577.1
    have rf1580 := Nat.lt_of_lt_of_eq rw1517.2.1 nh1576.symm
    have rf1581 := zh1576.trans rf1519
    have dd1582 : ∀ k, ¬ k ∈ ([55, 54, 49, 40, 38, 37, 36, 35, 34, 33, 32, 31, 30, 29, 28, 27, 26, 25, 15, 14, 13, 12, 11, 10, 9, 4, 2] : List Nat) → h1576.2.2.2.2 x k = defaultValue (gGG.2.1 12 k) := raw_dp fh1576 dd1520
    have s1583 := (fh1576 2 (by decide)).trans s1548
    have s1584 := (fh1576 4 (by decide)).trans s1549
    have s1585 := (fh1576 9 (by decide)).trans s1550
    have s1586 := (fh1576 10 (by decide)).trans s1551
    have s1587 := (fh1576 11 (by decide)).trans s1552
    have s1588 := (fh1576 12 (by decide)).trans s1553
    have s1589 := (fh1576 13 (by decide)).trans s1554
    have s1590 := (fh1576 14 (by decide)).trans s1555
    have s1591 := (fh1576 15 (by decide)).trans s1556
    have s1592 := (fh1576 25 (by decide)).trans s1557
    have s1593 := (fh1576 26 (by decide)).trans s1558
    have s1594 := (fh1576 27 (by decide)).trans s1559
    have s1595 := (fh1576 28 (by decide)).trans s1560
    have s1596 := (fh1576 29 (by decide)).trans s1561
    have s1597 := (fh1576 30 (by decide)).trans s1562
    have s1598 := (fh1576 31 (by decide)).trans s1563
    have s1599 := (fh1576 32 (by decide)).trans s1564
    have s1600 := (fh1576 33 (by decide)).trans s1565
    have s1601 := (fh1576 34 (by decide)).trans s1566
    have s1602 := (fh1576 35 (by decide)).trans s1567
    have s1603 := (fh1576 36 (by decide)).trans s1568
    have s1604 := (fh1576 37 (by decide)).trans s1569
    have s1605 := (fh1576 38 (by decide)).trans s1570
    have s1606 := (fh1576 40 (by decide)).trans s1571
    have s1607 := (fh1576 49 (by decide)).trans s1572
    have s1608 := (fh1576 54 (by decide)).trans s1573
    clear G1516 dd1520 rf1518 rf1519 rw1517 s1548 s1549 s1550 s1551 s1552 s1553 s1554 s1555 s1556 s1557 s1558 s1559 s1560 s1561 s1562 s1563 s1564 s1565 s1566 s1567 s1568 s1569 s1570 s1571 s1572 s1573 sS1575
    refine gz_s 2 (pc' := 220) (L' := [some (.ref x), none, none, none, none]) (S' := [.int (zi 10), .ref x]) rfl ?_
    refine gs_newr 29 rfl (by decide) rfl sS1579.1 (Nat.le_of_lt (Nat.lt_of_le_of_lt (gJ.cell sS1579.1 t1522 rfl).1 (gJ.cell sS1579.1 t1522 rfl).2.1)) (by omega) (by omega) rfl rfl (by show (10 : Int) ≤ _; omega) (by show _ ≤ (10 : Int); omega) (fun _ _ => gos_i (by decide) (by decide)) (fun ty1609 h1610 c1611 g1612 tc1611 lc1611 nc1611 mc1611 ec1611 dc1611 uc1611 => ?_)
    have gac1611 : h.1 ≤ c1611 := by have h8 := G1578.2.1; have h9 := sS1579.2.1; omega
    have uq1613 := uc1611 uq1515 (Or.inr (gNo.sub (by decide +kernel) pr1574))
    have G1614 : gSg [1, 2, 3, 4, 5, 6, 7, 8, 9, 10, 11, 12, 13, 14, 15, 16, 17, 18, 19, 20, 21, 22, 23, 24, 25, 26, 27, 28, 29, 30, 31, 32, 33, 34, 35, 36, 37, 38, 39, 40, 41, 42, 200] [x] [8999, 10999, 31999] ty h ty1609 h1610 := gSg.tr (gSg.ss G1578 sS1579 (by decide)) g1612 (by decide) (by decide) (fun x hx => by cases hx)
    have rw1615 := gSg.raw g1612 rf1580 (fun w => by cases w)
    have rf1616 := (rw1615.2.2.1.trans kh1576)
    have rf1617 := (rw1615.2.2.2.trans rf1581)
    have dd1618 := gSg.rawd (ci := 12) (ps := [55, 54, 49, 40, 38, 37, 36, 35, 34, 33, 32, 31, 30, 29, 28, 27, 26, 25, 15, 14, 13, 12, 11, 10, 9, 4, 2]) g1612 rf1580 (fun w => by cases w) t1521 (by decide) dd1582
    have t1619 : ty1609 x = 200 := rw1615.1.trans t1521
    have t1620 : ty1609 c3 = 2 := gSg.typ g1612 sS1579.1 t1522 rTk_2
    have t1621 : ty1609 c23 = 3 := gSg.typ g1612 sS1579.1 t1523 rTk_3
    have t1622 : ty1609 c46 = 4 := gSg.typ g1612 sS1579.1 t1524 rTk_4
    have t1623 : ty1609 c72 = 5 := gSg.typ g1612 sS1579.1 t1525 rTk_5
    have t1624 : ty1609 c101 = 6 := gSg.typ g1612 sS1579.1 t1526 rTk_6
    have t1625 : ty1609 c133 = 7 := gSg.typ g1612 sS1579.1 t1527 rTk_7
    have t1626 : ty1609 c171 = 8 := gSg.typ g1612 sS1579.1 t1528 rTk_8
    have t1627 : ty1609 c209 = 9 := gSg.typ g1612 sS1579.1 t1529 rTk_9
    have t1628 : ty1609 c250 = 10 := gSg.typ g1612 sS1579.1 t1530 rTk_10
    have t1629 : ty1609 c294 = 11 := gSg.typ g1612 sS1579.1 t1531 rTk_11
    have t1630 : ty1609 c341 = 12 := gSg.typ g1612 sS1579.1 t1532 rTk_12
    have t1631 : ty1609 c391 = 13 := gSg.typ g1612 sS1579.1 t1533 rTk_13
    have t1632 : ty1609 c447 = 14 := gSg.typ g1612 sS1579.1 t1534 rTk_14
    have t1633 : ty1609 c503 = 15 := gSg.typ g1612 sS1579.1 t1535 rTk_15
    have t1634 : ty1609 c562 = 16 := gSg.typ g1612 sS1579.1 t1536 rTk_16
    have t1635 : ty1609 c624 = 17 := gSg.typ g1612 sS1579.1 t1537 rTk_17
    have t1636 : ty1609 c689 = 18 := gSg.typ g1612 sS1579.1 t1538 rTk_18
    have t1637 : ty1609 c760 = 19 := gSg.typ g1612 sS1579.1 t1539 rTk_19
    have t1638 : ty1609 c831 = 20 := gSg.typ g1612 sS1579.1 t1540 rTk_20
    have t1639 : ty1609 c905 = 21 := gSg.typ g1612 sS1579.1 t1541 rTk_21
    have t1640 : ty1609 c982 = 22 := gSg.typ g1612 sS1579.1 t1542 rTk_22
    have t1641 : ty1609 c1065 = 23 := gSg.typ g1612 sS1579.1 t1543 rTk_23
    have t1642 : ty1609 c1148 = 24 := gSg.typ g1612 sS1579.1 t1544 rTk_24
    have t1643 : ty1609 c1234 = 25 := gSg.typ g1612 sS1579.1 t1545 rTk_25
    have t1644 : ty1609 c1323 = 26 := gSg.typ g1612 sS1579.1 t1546 rTk_26
    have t1645 : ty1609 c1418 = 27 := gSg.typ g1612 sS1579.1 t1547 rTk_27
    have t1646 : ty1609 c1513 = 28 := gSg.typ g1612 sS1579.1 tc1513 rTk_28
    have s1647 := gSg.rawat g1612 rf1580 (fun w => by cases w) t1521 (by decide) s1583
    have s1648 := gSg.rawat g1612 rf1580 (fun w => by cases w) t1521 (by decide) s1584
    have s1649 := gSg.rawat g1612 rf1580 (fun w => by cases w) t1521 (by decide) s1585
    have s1650 := gSg.rawat g1612 rf1580 (fun w => by cases w) t1521 (by decide) s1586
    have s1651 := gSg.rawat g1612 rf1580 (fun w => by cases w) t1521 (by decide) s1587
    have s1652 := gSg.rawat g1612 rf1580 (fun w => by cases w) t1521 (by decide) s1588
    have s1653 := gSg.rawat g1612 rf1580 (fun w => by cases w) t1521 (by decide) s1589
    have s1654 := gSg.rawat g1612 rf1580 (fun w => by cases w) t1521 (by decide) s1590
    have s1655 := gSg.rawat g1612 rf1580 (fun w => by cases w) t1521 (by decide) s1591
    have s1656 := gSg.rawat g1612 rf1580 (fun w => by cases w) t1521 (by decide) s1592
    have s1657 := gSg.rawat g1612 rf1580 (fun w => by cases w) t1521 (by decide) s1593
    have s1658 := gSg.rawat g1612 rf1580 (fun w => by cases w) t1521 (by decide) s1594
    have s1659 := gSg.rawat g1612 rf1580 (fun w => by cases w) t1521 (by decide) s1595
    have s1660 := gSg.rawat g1612 rf1580 (fun w => by cases w) t1521 (by decide) s1596
    have s1661 := gSg.rawat g1612 rf1580 (fun w => by cases w) t1521 (by decide) s1597
    have s1662 := gSg.rawat g1612 rf1580 (fun w => by cases w) t1521 (by decide) s1598
    have s1663 := gSg.rawat g1612 rf1580 (fun w => by cases w) t1521 (by decide) s1599
    have s1664 := gSg.rawat g1612 rf1580 (fun w => by cases w) t1521 (by decide) s1600
    have s1665 := gSg.rawat g1612 rf1580 (fun w => by cases w) t1521 (by decide) s1601
    have s1666 := gSg.rawat g1612 rf1580 (fun w => by cases w) t1521 (by decide) s1602
    have s1667 := gSg.rawat g1612 rf1580 (fun w => by cases w) t1521 (by decide) s1603
    have s1668 := gSg.rawat g1612 rf1580 (fun w => by cases w) t1521 (by decide) s1604
    have s1669 := gSg.rawat g1612 rf1580 (fun w => by cases w) t1521 (by decide) s1605
    have s1670 := gSg.rawat g1612 rf1580 (fun w => by cases w) t1521 (by decide) s1606
    have s1671 := gSg.rawat g1612 rf1580 (fun w => by cases w) t1521 (by decide) s1607
    have s1672 := gSg.rawat g1612 rf1580 (fun w => by cases w) t1521 (by decide) s1608
    have s1673 := gSg.rawat g1612 rf1580 (fun w => by cases w) t1521 (by decide) eh1576
    have pr1674 : gNo [1, 30, 31, 32, 33, 34, 35, 36, 37, 38, 39, 40, 41, 42] ty1609 := gNo.gr g1612 (by decide +kernel) (gNo.sub (by decide +kernel) pr1574)
    have sS1675 : gSs rT 1027 ty1609 [8999, 10999, 31999] h1610 h1610 := gSs.rf g1612.1
    clear G1578 dd1582 pr1574 rf1580 rf1581 s1583 s1584 s1585 s1586 s1587 s1588 s1589 s1590 s1591 s1592 s1593 s1594 s1595 s1596 s1597 s1598 s1599 s1600 s1601 s1602 s1603 s1604 s1605 s1606 s1607 s1608 sS1579 t1521 t1522 t1523 t1524 t1525 t1526 t1527 t1528 t1529 t1530 t1531 t1532 t1533 t1534 t1535 t1536 t1537 t1538 t1539 t1540 t1541 t1542 t1543 t1544 t1545 t1546 t1547 uq1515
    refine gs_rput rfl (by decide) rfl sS1675.1 t1619 nx rw1615.2.1 rf1616 rfl (Or.inr rfl) (fun h1676 g1677 nh1676 mh1676 kh1676 zh1676 eh1676 fh1676 => ?_)
    have G1678 : gSg [1, 2, 3, 4, 5, 6, 7, 8, 9, 10, 11, 12, 13, 14, 15, 16, 17, 18, 19, 20, 21, 22, 23, 24, 25, 26, 27, 28, 29, 30, 31, 32, 33, 34, 35, 36, 37, 38, 39, 40, 41, 42, 200] [x] [8999, 10999, 31999] ty h ty1609 h1676 := gSg.tr (gSg.ss G1614 sS1675 (by decide)) g1677 (by decide) (by decide) (fun x hx => Or.inr hx)
    have sS1679 : gSs rT 1027 ty1609 [8999, 10999, 31999] h1676 h1676 := gSs.rf g1677.1
    have rf1680 := Nat.lt_of_lt_of_eq rw1615.2.1 nh1676.symm
    have rf1681 := zh1676.trans rf1617
    have dd1682 : ∀ k, ¬ k ∈ ([56, 55, 54, 49, 40, 38, 37, 36, 35, 34, 33, 32, 31, 30, 29, 28, 27, 26, 25, 15, 14, 13, 12, 11, 10, 9, 4, 2] : List Nat) → h1676.2.2.2.2 x k = defaultValue (gGG.2.1 12 k) := raw_dp fh1676 dd1618
    have s1683 := (fh1676 2 (by decide)).trans s1647
    have s1684 := (fh1676 4 (by decide)).trans s1648
    have s1685 := (fh1676 9 (by decide)).trans s1649
    have s1686 := (fh1676 10 (by decide)).trans s1650
    have s1687 := (fh1676 11 (by decide)).trans s1651
    have s1688 := (fh1676 12 (by decide)).trans s1652
    have s1689 := (fh1676 13 (by decide)).trans s1653
    have s1690 := (fh1676 14 (by decide)).trans s1654
    have s1691 := (fh1676 15 (by decide)).trans s1655
    have s1692 := (fh1676 25 (by decide)).trans s1656
    have s1693 := (fh1676 26 (by decide)).trans s1657
    have s1694 := (fh1676 27 (by decide)).trans s1658
    have s1695 := (fh1676 28 (by decide)).trans s1659
    have s1696 := (fh1676 29 (by decide)).trans s1660
    have s1697 := (fh1676 30 (by decide)).trans s1661
    have s1698 := (fh1676 31 (by decide)).trans s1662
    have s1699 := (fh1676 32 (by decide)).trans s1663
    have s1700 := (fh1676 33 (by decide)).trans s1664
    have s1701 := (fh1676 34 (by decide)).trans s1665
    have s1702 := (fh1676 35 (by decide)).trans s1666
    have s1703 := (fh1676 36 (by decide)).trans s1667
    have s1704 := (fh1676 37 (by decide)).trans s1668
    have s1705 := (fh1676 38 (by decide)).trans s1669
    have s1706 := (fh1676 40 (by decide)).trans s1670
    have s1707 := (fh1676 49 (by decide)).trans s1671
    have s1708 := (fh1676 54 (by decide)).trans s1672
    have s1709 := (fh1676 55 (by decide)).trans s1673
    clear G1614 dd1618 rf1616 rf1617 rw1615 s1647 s1648 s1649 s1650 s1651 s1652 s1653 s1654 s1655 s1656 s1657 s1658 s1659 s1660 s1661 s1662 s1663 s1664 s1665 s1666 s1667 s1668 s1669 s1670 s1671 s1672 s1673 sS1675
    have lp1710 := cmlp1710 d hJ x nx c3 c23 c46 c72 c101 c133 c171 c209 c250 c294 c341 c391 c447 c503 c562 c624 c689 c760 c831 c905 c982 c1065 c1148 c1234 c1323 c1418 c1513 c1611
    have G3572 : gSg [1, 2, 3, 4, 5, 6, 7, 8, 9, 10, 11, 12, 13, 14, 15, 16, 17, 18, 19, 20, 21, 22, 23, 24, 25, 26, 27, 28, 29, 30, 31, 32, 33, 34, 35, 36, 37, 38, 39, 40, 41, 42, 200] [x] [8999, 10999, 31999] ty h ty1609 h1676 := gSg.ss G1678 sS1679 (by decide)
    exact gz_wk (lp1710 _ ty1609 h1676  (Nat.lt_succ_self _) G3572 uq1613 t1619 t1620 t1621 t1622 t1623 t1624 t1625 t1626 t1627 t1628 t1629 t1630 t1631 t1632 t1633 t1634 t1635 t1636 t1637 t1638 t1639 t1640 t1641 t1642 t1643 t1644 t1645 t1646 tc1611 (by omega) (by omega) s1683 s1684 s1685 s1686 s1687 s1688 s1689 s1690 s1691 s1692 s1693 s1694 s1695 s1696 s1697 s1698 s1699 s1700 s1701 s1702 s1703 s1704 s1705 s1706 s1707 s1708 s1709 eh1676 pr1674 rf1680 kh1676 rf1681 dd1682) (gLw.s (gLw.n (gLw.n (gLw.n (gLw.n gLw.z)))))
set_option maxRecDepth 20000 in
set_option maxHeartbeats 4000000 in
theorem cmlp1060 (d : Nat) {ty : Nat → Nat} {h : gH} (hJ : gJ rT 1027 ty h) (x : Nat) (nx : 1027 ≤ x) (c3 c23 c46 c72 c101 c133 c171 c209 c250 c294 c341 c391 c447 c503 c562 c624 c689 c760 c831 c905 c982 : Nat) : ∀ (fu : Nat) (ty1062 : Nat → Nat) (h1061 : gH), ((1 : Int)).toNat < fu → gSg [1, 2, 3, 4, 5, 6, 7, 8, 9, 10, 11, 12, 13, 14, 15, 16, 17, 18, 19, 20, 21, 22, 23, 24, 25, 26, 27, 28, 29, 30, 31, 32, 33, 34, 35, 36, 37, 38, 39, 40, 41, 42, 200] [x] [8999, 10999, 31999] ty h ty1062 h1061 → gUq ty1062 → ty1062 x = 200 → ty1062 c3 = 2 → ty1062 c23 = 3 → ty1062 c46 = 4 → ty1062 c72 = 5 → ty1062 c101 = 6 → ty1062 c133 = 7 → ty1062 c171 = 8 → ty1062 c209 = 9 → ty1062 c250 = 10 → ty1062 c294 = 11 → ty1062 c341 = 12 → ty1062 c391 = 13 → ty1062 c447 = 14 → ty1062 c503 = 15 → ty1062 c562 = 16 → ty1062 c624 = 17 → ty1062 c689 = 18 → ty1062 c760 = 19 → ty1062 c831 = 20 → ty1062 c905 = 21 → ty1062 c982 = 22 → ((h1061.1 : Int) = h.1 + 21) → ((h1061.2.1 : Int) = h.2.1 + 10788) → h1061.2.2.2.2 x 2 = .ref c3 → h1061.2.2.2.2 x 4 = .ref c23 → h1061.2.2.2.2 x 9 = .ref c46 → h1061.2.2.2.2 x 10 = .ref c72 → h1061.2.2.2.2 x 11 = .ref c101 → h1061.2.2.2.2 x 12 = .ref c133 → h1061.2.2.2.2 x 13 = .ref c171 → h1061.2.2.2.2 x 14 = .ref c209 → h1061.2.2.2.2 x 15 = .ref c250 → h1061.2.2.2.2 x 25 = .ref c294 → h1061.2.2.2.2 x 26 = .ref c341 → h1061.2.2.2.2 x 27 = .ref c391 → h1061.2.2.2.2 x 28 = .ref c447 → h1061.2.2.2.2 x 29 = .ref c503 → h1061.2.2.2.2 x 30 = .ref c562 → h1061.2.2.2.2 x 31 = .ref c624 → h1061.2.2.2.2 x 32 = .ref c689 → h1061.2.2.2.2 x 33 = .ref c760 → h1061.2.2.2.2 x 34 = .ref c831 → h1061.2.2.2.2 x 35 = .ref c905 → h1061.2.2.2.2 x 36 = .ref c982 → gNo [1, 23, 24, 25, 26, 27, 28, 29, 30, 31, 32, 33, 34, 35, 36, 37, 38, 39, 40, 41, 42] ty1062 → x < h1061.1 → h1061.2.2.1 x = some (.inr 12) → h1061.2.2.2.1 x = 0 → (∀ k, ¬ k ∈ ([36, 35, 34, 33, 32, 31, 30, 29, 28, 27, 26, 25, 15, 14, 13, 12, 11, 10, 9, 4, 2] : List Nat) → h1061.2.2.2.2 x k = defaultValue (gGG.2.1 12 k)) → gz gPP gGG gcn (d + 1) gt130 167 [some (.ref x), none, none, none, none] [] h1061 (fun q _ => ∃ ty9 : Nat → Nat, gSg [1, 2, 3, 4, 5, 6, 7, 8, 9, 10, 11, 12, 13, 14, 15, 16, 17, 18, 19, 20, 21, 22, 23, 24, 25, 26, 27, 28, 29, 30, 31, 32, 33, 34, 35, 36, 37, 38, 39, 40, 41, 42, 200] [x] [8999, 10999, 31999] ty h ty9 q.2.2 ∧ ∃ ip n1 cw ch iv1 : Int, ty9 x = 1 ∧ gfin gt130 q.1 q.2.1 = some none ∧ q.2.2.2.2.2.2 x 16 = .int (zi ip) ∧ 0 ≤ ip ∧ ip ≤ 1 ∧ q.2.2.2.2.2.2 x 53 = .int (zi n1) ∧ 0 ≤ n1 ∧ n1 ≤ 10 ∧ q.2.2.2.2.2.2 x 50 = .int (zi cw) ∧ 0 ≤ cw ∧ cw ≤ 32 ∧ q.2.2.2.2.2.2 x 51 = .int (zi ch) ∧ 0 ≤ ch ∧ ch ≤ 32 ∧ q.2.2.2.2.2.2 x 52 = .int (zi iv1) ∧ 0 ≤ iv1 ∧ iv1 ≤ 100 ∧ (ip = 0) ∧ (n1 = 0) ∧ (cw = 0) ∧ (ch = 0) ∧ (iv1 = 0) ∧ ((q.2.2.1 : Int) = h.1 + 41) ∧ ((q.2.2.2.1 : Int) = h.2.1 + 88652) ∧ (gTs ty9 0 q.2.2) ∧ (gOy ty9 31 (-1) 64 q.2.2) ∧ gUq ty9) := by
  intro fu
  induction fu with
  | zero => intro ty1062 h1061  hm; exact absurd hm (Nat.not_lt_zero _)
  | succ fu ihlp1060 =>
    intro ty1062 h1061  lp1060m lp1060G lp1060u lp1060c0 lp1060c1 lp1060c2 lp1060c3 lp1060c4 lp1060c5 lp1060c6 lp1060c7 lp1060c8 lp1060c9 lp1060c10 lp1060c11 lp1060c12 lp1060c13 lp1060c14 lp1060c15 lp1060c16 lp1060c17 lp1060c18 lp1060c19 lp1060c20 lp1060c21 lp1060f0 lp1060f1 lp1060k0 lp1060k1 lp1060k2 lp1060k3 lp1060k4 lp1060k5 lp1060k6 lp1060k7 lp1060k8 lp1060k9 lp1060k10 lp1060k11 lp1060k12 lp1060k13 lp1060k14 lp1060k15 lp1060k16 lp1060k17 lp1060k18 lp1060k19 lp1060k20 lp1060k21 lp1060w0 lp1060w1 lp1060w2 lp1060w3
    have sh1061 : gSs rT 1027 ty1062 [8999, 10999, 31999] h1061 h1061 := gSs.rf lp1060G.1
    refine gz_s 2 (pc' := 171) (L' := [some (.ref x), none, none, none, none]) (S' := [.int (zi 12288), .ref x]) rfl ?_
    refine gs_newr 23 rfl (by decide) rfl sh1061.1 (Nat.le_of_lt (Nat.lt_of_le_of_lt (gJ.cell sh1061.1 lp1060c1 rfl).1 (gJ.cell sh1061.1 lp1060c1 rfl).2.1)) (by omega) (by omega) rfl rfl (by show (12288 : Int) ≤ _; omega) (by show _ ≤ (12288 : Int); omega) (fun _ _ => gos_i (by decide) (by decide)) (fun ty1063 h1064 c1065 g1066 tc1065 lc1065 nc1065 mc1065 ec1065 dc1065 uc1065 => ?_)
    have gac1065 : h.1 ≤ c1065 := by have h8 := lp1060G.2.1; have h9 := sh1061.2.1; omega
    have uq1067 := uc1065 lp1060u (Or.inr (gNo.sub (by decide +kernel) lp1060k21))
    have G1068 : gSg [1, 2, 3, 4, 5, 6, 7, 8, 9, 10, 11, 12, 13, 14, 15, 16, 17, 18, 19, 20, 21, 22, 23, 24, 25, 26, 27, 28, 29, 30, 31, 32, 33, 34, 35, 36, 37, 38, 39, 40, 41, 42, 200] [x] [8999, 10999, 31999] ty h ty1063 h1064 := gSg.tr (gSg.ss lp1060G sh1061 (by decide)) g1066 (by decide) (by decide) (fun x hx => by cases hx)
    have rw1069 := gSg.raw g1066 lp1060w0 (fun w => by cases w)
    have rf1070 := (rw1069.2.2.1.trans lp1060w1)
    have rf1071 := (rw1069.2.2.2.trans lp1060w2)
    have dd1072 := gSg.rawd (ci := 12) (ps := [36, 35, 34, 33, 32, 31, 30, 29, 28, 27, 26, 25, 15, 14, 13, 12, 11, 10, 9, 4, 2]) g1066 lp1060w0 (fun w => by cases w) lp1060c0 (by decide) lp1060w3
    have t1073 : ty1063 x = 200 := rw1069.1.trans lp1060c0
    have t1074 : ty1063 c3 = 2 := gSg.typ g1066 sh1061.1 lp1060c1 rTk_2
    have t1075 : ty1063 c23 = 3 := gSg.typ g1066 sh1061.1 lp1060c2 rTk_3
    have t1076 : ty1063 c46 = 4 := gSg.typ g1066 sh1061.1 lp1060c3 rTk_4
    have t1077 : ty1063 c72 = 5 := gSg.typ g1066 sh1061.1 lp1060c4 rTk_5
    have t1078 : ty1063 c101 = 6 := gSg.typ g1066 sh1061.1 lp1060c5 rTk_6
    have t1079 : ty1063 c133 = 7 := gSg.typ g1066 sh1061.1 lp1060c6 rTk_7
    have t1080 : ty1063 c171 = 8 := gSg.typ g1066 sh1061.1 lp1060c7 rTk_8
    have t1081 : ty1063 c209 = 9 := gSg.typ g1066 sh1061.1 lp1060c8 rTk_9
    have t1082 : ty1063 c250 = 10 := gSg.typ g1066 sh1061.1 lp1060c9 rTk_10
    have t1083 : ty1063 c294 = 11 := gSg.typ g1066 sh1061.1 lp1060c10 rTk_11
    have t1084 : ty1063 c341 = 12 := gSg.typ g1066 sh1061.1 lp1060c11 rTk_12
    have t1085 : ty1063 c391 = 13 := gSg.typ g1066 sh1061.1 lp1060c12 rTk_13
    have t1086 : ty1063 c447 = 14 := gSg.typ g1066 sh1061.1 lp1060c13 rTk_14
    have t1087 : ty1063 c503 = 15 := gSg.typ g1066 sh1061.1 lp1060c14 rTk_15
    have t1088 : ty1063 c562 = 16 := gSg.typ g1066 sh1061.1 lp1060c15 rTk_16
    have t1089 : ty1063 c624 = 17 := gSg.typ g1066 sh1061.1 lp1060c16 rTk_17
    have t1090 : ty1063 c689 = 18 := gSg.typ g1066 sh1061.1 lp1060c17 rTk_18
    have t1091 : ty1063 c760 = 19 := gSg.typ g1066 sh1061.1 lp1060c18 rTk_19
    have t1092 : ty1063 c831 = 20 := gSg.typ g1066 sh1061.1 lp1060c19 rTk_20
    have t1093 : ty1063 c905 = 21 := gSg.typ g1066 sh1061.1 lp1060c20 rTk_21
    have t1094 : ty1063 c982 = 22 := gSg.typ g1066 sh1061.1 lp1060c21 rTk_22
    have s1095 := gSg.rawat g1066 lp1060w0 (fun w => by cases w) lp1060c0 (by decide) lp1060k0
    have s1096 := gSg.rawat g1066 lp1060w0 (fun w => by cases w) lp1060c0 (by decide) lp1060k1
    have s1097 := gSg.rawat g1066 lp1060w0 (fun w => by cases w) lp1060c0 (by decide) lp1060k2
    have s1098 := gSg.rawat g1066 lp1060w0 (fun w => by cases w) lp1060c0 (by decide) lp1060k3
    have s1099 := gSg.rawat g1066 lp1060w0 (fun w => by cases w) lp1060c0 (by decide) lp1060k4
    have s1100 := gSg.rawat g1066 lp1060w0 (fun w => by cases w) lp1060c0 (by decide) lp1060k5
    have s1101 := gSg.rawat g1066 lp1060w0 (fun w => by cases w) lp1060c0 (by decide) lp1060k6
    have s1102 := gSg.rawat g1066 lp1060w0 (fun w => by cases w) lp1060c0 (by decide) lp1060k7
    have s1103 := gSg.rawat g1066 lp1060w0 (fun w => by cases w) lp1060c0 (by decide) lp1060k8
    have s1104 := gSg.rawat g1066 lp1060w0 (fun w => by cases w) lp1060c0 (by decide) lp1060k9
    have s1105 := gSg.rawat g1066 lp1060w0 (fun w => by cases w) lp1060c0 (by decide) lp1060k10
    have s1106 := gSg.rawat g1066 lp1060w0 (fun w => by cases w) lp1060c0 (by decide) lp1060k11
    have s1107 := gSg.rawat g1066 lp1060w0 (fun w => by cases w) lp1060c0 (by decide) lp1060k12
    have s1108 := gSg.rawat g1066 lp1060w0 (fun w => by cases w) lp1060c0 (by decide) lp1060k13
    have s1109 := gSg.rawat g1066 lp1060w0 (fun w => by cases w) lp1060c0 (by decide) lp1060k14
    have s1110 := gSg.rawat g1066 lp1060w0 (fun w => by cases w) lp1060c0 (by decide) lp1060k15
    have s1111 := gSg.rawat g1066 lp1060w0 (fun w => by cases w) lp1060c0 (by decide) lp1060k16
    have s1112 := gSg.rawat g1066 lp1060w0 (fun w => by cases w) lp1060c0 (by decide) lp1060k17
    have s1113 := gSg.rawat g1066 lp1060w0 (fun w => by cases w) lp1060c0 (by decide) lp1060k18
    have s1114 := gSg.rawat g1066 lp1060w0 (fun w => by cases w) lp1060c0 (by decide) lp1060k19
    have s1115 := gSg.rawat g1066 lp1060w0 (fun w => by cases w) lp1060c0 (by decide) lp1060k20
    have pr1116 : gNo [1, 24, 25, 26, 27, 28, 29, 30, 31, 32, 33, 34, 35, 36, 37, 38, 39, 40, 41, 42] ty1063 := gNo.gr g1066 (by decide +kernel) (gNo.sub (by decide +kernel) lp1060k21)
    have sS1117 : gSs rT 1027 ty1063 [8999, 10999, 31999] h1064 h1064 := gSs.rf g1066.1
    refine gs_rput rfl (by decide) rfl sS1117.1 t1073 nx rw1069.2.1 rf1070 rfl (Or.inr rfl) (fun h1118 g1119 nh1118 mh1118 kh1118 zh1118 eh1118 fh1118 => ?_)
    have G1120 : gSg [1, 2, 3, 4, 5, 6, 7, 8, 9, 10, 11, 12, 13, 14, 15, 16, 17, 18, 19, 20, 21, 22, 23, 24, 25, 26, 27, 28, 29, 30, 31, 32, 33, 34, 35, 36, 37, 38, 39, 40, 41, 42, 200] [x] [8999, 10999, 31999] ty h ty1063 h1118 := gSg.tr (gSg.ss G1068 sS1117 (by decide)) g1119 (by decide) (by decide) (fun x hx => Or.inr hx)
    have sS1121 : gSs rT 1027 ty1063 [8999, 10999, 31999] h1118 h1118 := gSs.rf g1119.1
    have rf1122 := Nat.lt_of_lt_of_eq rw1069.2.1 nh1118.symm
    have rf1123 := zh1118.trans rf1071
    have dd1124 : ∀ k, ¬ k ∈ ([37, 36, 35, 34, 33, 32, 31, 30, 29, 28, 27, 26, 25, 15, 14, 13, 12, 11, 10, 9, 4, 2] : List Nat) → h1118.2.2.2.2 x k = defaultValue (gGG.2.1 12 k) := raw_dp fh1118 dd1072
    have s1125 := (fh1118 2 (by decide)).trans s1095
    have s1126 := (fh1118 4 (by decide)).trans s1096
    have s1127 := (fh1118 9 (by decide)).trans s1097
    have s1128 := (fh1118 10 (by decide)).trans s1098
    have s1129 := (fh1118 11 (by decide)).trans s1099
    have s1130 := (fh1118 12 (by decide)).trans s1100
    have s1131 := (fh1118 13 (by decide)).trans s1101
    have s1132 := (fh1118 14 (by decide)).trans s1102
    have s1133 := (fh1118 15 (by decide)).trans s1103
    have s1134 := (fh1118 25 (by decide)).trans s1104
    have s1135 := (fh1118 26 (by decide)).trans s1105
    have s1136 := (fh1118 27 (by decide)).trans s1106
    have s1137 := (fh1118 28 (by decide)).trans s1107
    have s1138 := (fh1118 29 (by decide)).trans s1108
    have s1139 := (fh1118 30 (by decide)).trans s1109
    have s1140 := (fh1118 31 (by decide)).trans s1110
    have s1141 := (fh1118 32 (by decide)).trans s1111
    have s1142 := (fh1118 33 (by decide)).trans s1112
    have s1143 := (fh1118 34 (by decide)).trans s1113
    have s1144 := (fh1118 35 (by decide)).trans s1114
    have s1145 := (fh1118 36 (by decide)).trans s1115
    clear G1068 dd1072 rf1070 rf1071 rw1069 s1095 s1096 s1097 s1098 s1099 s1100 s1101 s1102 s1103 s1104 s1105 s1106 s1107 s1108 s1109 s1110 s1111 s1112 s1113 s1114 s1115 sS1117
    refine gz_s 2 (pc' := 180) (L' := [some (.ref x), none, none, none, none]) (S' := [.int (zi 192), .ref x]) rfl ?_
    refine gs_newr 24 rfl (by decide) rfl sS1121.1 (Nat.le_of_lt (Nat.lt_of_le_of_lt (gJ.cell sS1121.1 t1074 rfl).1 (gJ.cell sS1121.1 t1074 rfl).2.1)) (by omega) (by omega) rfl rfl (by show (192 : Int) ≤ _; omega) (by show _ ≤ (192 : Int); omega) (fun _ _ => gos_i (by decide) (by decide)) (fun ty1146 h1147 c1148 g1149 tc1148 lc1148 nc1148 mc1148 ec1148 dc1148 uc1148 => ?_)
    have gac1148 : h.1 ≤ c1148 := by have h8 := G1120.2.1; have h9 := sS1121.2.1; omega
    have uq1150 := uc1148 uq1067 (Or.inr (gNo.sub (by decide +kernel) pr1116))
    have G1151 : gSg [1, 2, 3, 4, 5, 6, 7, 8, 9, 10, 11, 12, 13, 14, 15, 16, 17, 18, 19, 20, 21, 22, 23, 24, 25, 26, 27, 28, 29, 30, 31, 32, 33, 34, 35, 36, 37, 38, 39, 40, 41, 42, 200] [x] [8999, 10999, 31999] ty h ty1146 h1147 := gSg.tr (gSg.ss G1120 sS1121 (by decide)) g1149 (by decide) (by decide) (fun x hx => by cases hx)
    have rw1152 := gSg.raw g1149 rf1122 (fun w => by cases w)
    have rf1153 := (rw1152.2.2.1.trans kh1118)
    have rf1154 := (rw1152.2.2.2.trans rf1123)
    have dd1155 := gSg.rawd (ci := 12) (ps := [37, 36, 35, 34, 33, 32, 31, 30, 29, 28, 27, 26, 25, 15, 14, 13, 12, 11, 10, 9, 4, 2]) g1149 rf1122 (fun w => by cases w) t1073 (by decide) dd1124
    have t1156 : ty1146 x = 200 := rw1152.1.trans t1073
    have t1157 : ty1146 c3 = 2 := gSg.typ g1149 sS1121.1 t1074 rTk_2
    have t1158 : ty1146 c23 = 3 := gSg.typ g1149 sS1121.1 t1075 rTk_3
    have t1159 : ty1146 c46 = 4 := gSg.typ g1149 sS1121.1 t1076 rTk_4
    have t1160 : ty1146 c72 = 5 := gSg.typ g1149 sS1121.1 t1077 rTk_5
    have t1161 : ty1146 c101 = 6 := gSg.typ g1149 sS1121.1 t1078 rTk_6
    have t1162 : ty1146 c133 = 7 := gSg.typ g1149 sS1121.1 t1079 rTk_7
    have t1163 : ty1146 c171 = 8 := gSg.typ g1149 sS1121.1 t1080 rTk_8
    have t1164 : ty1146 c209 = 9 := gSg.typ g1149 sS1121.1 t1081 rTk_9
    have t1165 : ty1146 c250 = 10 := gSg.typ g1149 sS1121.1 t1082 rTk_10
    have t1166 : ty1146 c294 = 11 := gSg.typ g1149 sS1121.1 t1083 rTk_11
    have t1167 : ty1146 c341 = 12 := gSg.typ g1149 sS1121.1 t1084 rTk_12
    have t1168 : ty1146 c391 = 13 := gSg.typ g1149 sS1121.1 t1085 rTk_13
    have t1169 : ty1146 c447 = 14 := gSg.typ g1149 sS1121.1 t1086 rTk_14
    have t1170 : ty1146 c503 = 15 := gSg.typ g1149 sS1121.1 t1087 rTk_15
    have t1171 : ty1146 c562 = 16 := gSg.typ g1149 sS1121.1 t1088 rTk_16
    have t1172 : ty1146 c624 = 17 := gSg.typ g1149 sS1121.1 t1089 rTk_17
    have t1173 : ty1146 c689 = 18 := gSg.typ g1149 sS1121.1 t1090 rTk_18
    have t1174 : ty1146 c760 = 19 := gSg.typ g1149 sS1121.1 t1091 rTk_19
    have t1175 : ty1146 c831 = 20 := gSg.typ g1149 sS1121.1 t1092 rTk_20
    have t1176 : ty1146 c905 = 21 := gSg.typ g1149 sS1121.1 t1093 rTk_21
    have t1177 : ty1146 c982 = 22 := gSg.typ g1149 sS1121.1 t1094 rTk_22
    have t1178 : ty1146 c1065 = 23 := gSg.typ g1149 sS1121.1 tc1065 rTk_23
    have s1179 := gSg.rawat g1149 rf1122 (fun w => by cases w) t1073 (by decide) s1125
    have s1180 := gSg.rawat g1149 rf1122 (fun w => by cases w) t1073 (by decide) s1126
    have s1181 := gSg.rawat g1149 rf1122 (fun w => by cases w) t1073 (by decide) s1127
    have s1182 := gSg.rawat g1149 rf1122 (fun w => by cases w) t1073 (by decide) s1128
    have s1183 := gSg.rawat g1149 rf1122 (fun w => by cases w) t1073 (by decide) s1129
    have s1184 := gSg.rawat g1149 rf1122 (fun w => by cases w) t1073 (by decide) s1130
    have s1185 := gSg.rawat g1149 rf1122 (fun w => by cases w) t1073 (by decide) s1131
    have s1186 := gSg.rawat g1149 rf1122 (fun w => by cases w) t1073 (by decide) s1132
    have s1187 := gSg.rawat g1149 rf1122 (fun w => by cases w) t1073 (by decide) s1133
    have s1188 := gSg.rawat g1149 rf1122 (fun w => by cases w) t1073 (by decide) s1134
    have s1189 := gSg.rawat g1149 rf1122 (fun w => by cases w) t1073 (by decide) s1135
    have s1190 := gSg.rawat g1149 rf1122 (fun w => by cases w) t1073 (by decide) s1136
    have s1191 := gSg.rawat g1149 rf1122 (fun w => by cases w) t1073 (by decide) s1137
    have s1192 := gSg.rawat g1149 rf1122 (fun w => by cases w) t1073 (by decide) s1138
    have s1193 := gSg.rawat g1149 rf1122 (fun w => by cases w) t1073 (by decide) s1139
    have s1194 := gSg.rawat g1149 rf1122 (fun w => by cases w) t1073 (by decide) s1140
    have s1195 := gSg.rawat g1149 rf1122 (fun w => by cases w) t1073 (by decide) s1141
    have s1196 := gSg.rawat g1149 rf1122 (fun w => by cases w) t1073 (by decide) s1142
    have s1197 := gSg.rawat g1149 rf1122 (fun w => by cases w) t1073 (by decide) s1143
    have s1198 := gSg.rawat g1149 rf1122 (fun w => by cases w) t1073 (by decide) s1144
    have s1199 := gSg.rawat g1149 rf1122 (fun w => by cases w) t1073 (by decide) s1145
    have s1200 := gSg.rawat g1149 rf1122 (fun w => by cases w) t1073 (by decide) eh1118
    have pr1201 : gNo [1, 25, 26, 27, 28, 29, 30, 31, 32, 33, 34, 35, 36, 37, 38, 39, 40, 41, 42] ty1146 := gNo.gr g1149 (by decide +kernel) (gNo.sub (by decide +kernel) pr1116)
    have sS1202 : gSs rT 1027 ty1146 [8999, 10999, 31999] h1147 h1147 := gSs.rf g1149.1
    clear G1120 dd1124 pr1116 rf1122 rf1123 s1125 s1126 s1127 s1128 s1129 s1130 s1131 s1132 s1133 s1134 s1135 s1136 s1137 s1138 s1139 s1140 s1141 s1142 s1143 s1144 s1145 sS1121 t1073 t1074 t1075 t1076 t1077 t1078 t1079 t1080 t1081 t1082 t1083 t1084 t1085 t1086 t1087 t1088 t1089 t1090 t1091 t1092 t1093 t1094 uq1067
    refine gs_rput rfl (by decide) rfl sS1202.1 t1156 nx rw1152.2.1 rf1153 rfl (Or.inr rfl) (fun h1203 g1204 nh1203 mh1203 kh1203 zh1203 eh1203 fh1203 => ?_)
    have G1205 : gSg [1, 2, 3, 4, 5, 6, 7, 8, 9, 10, 11, 12, 13, 14, 15, 16, 17, 18, 19, 20, 21, 22, 23, 24, 25, 26, 27, 28, 29, 30, 31, 32, 33, 34, 35, 36, 37, 38, 39, 40, 41, 42, 200] [x] [8999, 10999, 31999] ty h ty1146 h1203 := gSg.tr (gSg.ss G1151 sS1202 (by decide)) g1204 (by decide) (by decide) (fun x hx => Or.inr hx)
    have sS1206 : gSs rT 1027 ty1146 [8999, 10999, 31999] h1203 h1203 := gSs.rf g1204.1
    have rf1207 := Nat.lt_of_lt_of_eq rw1152.2.1 nh1203.symm
    have rf1208 := zh1203.trans rf1154
    have dd1209 : ∀ k, ¬ k ∈ ([38, 37, 36, 35, 34, 33, 32, 31, 30, 29, 28, 27, 26, 25, 15, 14, 13, 12, 11, 10, 9, 4, 2] : List Nat) → h1203.2.2.2.2 x k = defaultValue (gGG.2.1 12 k) := raw_dp fh1203 dd1155
    have s1210 := (fh1203 2 (by decide)).trans s1179
    have s1211 := (fh1203 4 (by decide)).trans s1180
    have s1212 := (fh1203 9 (by decide)).trans s1181
    have s1213 := (fh1203 10 (by decide)).trans s1182
    have s1214 := (fh1203 11 (by decide)).trans s1183
    have s1215 := (fh1203 12 (by decide)).trans s1184
    have s1216 := (fh1203 13 (by decide)).trans s1185
    have s1217 := (fh1203 14 (by decide)).trans s1186
    have s1218 := (fh1203 15 (by decide)).trans s1187
    have s1219 := (fh1203 25 (by decide)).trans s1188
    have s1220 := (fh1203 26 (by decide)).trans s1189
    have s1221 := (fh1203 27 (by decide)).trans s1190
    have s1222 := (fh1203 28 (by decide)).trans s1191
    have s1223 := (fh1203 29 (by decide)).trans s1192
    have s1224 := (fh1203 30 (by decide)).trans s1193
    have s1225 := (fh1203 31 (by decide)).trans s1194
    have s1226 := (fh1203 32 (by decide)).trans s1195
    have s1227 := (fh1203 33 (by decide)).trans s1196
    have s1228 := (fh1203 34 (by decide)).trans s1197
    have s1229 := (fh1203 35 (by decide)).trans s1198
    have s1230 := (fh1203 36 (by decide)).trans s1199
    have s1231 := (fh1203 37 (by decide)).trans s1200
    clear G1151 dd1155 rf1153 rf1154 rw1152 s1179 s1180 s1181 s1182 s1183 s1184 s1185 s1186 s1187 s1188 s1189 s1190 s1191 s1192 s1193 s1194 s1195 s1196 s1197 s1198 s1199 s1200 sS1202
    refine gz_s 2 (pc' := 187) (L' := [some (.ref x), none, none, none, none]) (S' := [.int (zi 3), .ref x]) rfl ?_
    refine gs_newr 25 rfl (by decide) rfl sS1206.1 (Nat.le_of_lt (Nat.lt_of_le_of_lt (gJ.cell sS1206.1 t1157 rfl).1 (gJ.cell sS1206.1 t1157 rfl).2.1)) (by omega) (by omega) rfl rfl (by show (3 : Int) ≤ _; omega) (by show _ ≤ (3 : Int); omega) (fun _ _ => gos_i (by decide) (by decide)) (fun ty1232 h1233 c1234 g1235 tc1234 lc1234 nc1234 mc1234 ec1234 dc1234 uc1234 => ?_)
    have gac1234 : h.1 ≤ c1234 := by have h8 := G1205.2.1; have h9 := sS1206.2.1; omega
    have uq1236 := uc1234 uq1150 (Or.inr (gNo.sub (by decide +kernel) pr1201))
    have G1237 : gSg [1, 2, 3, 4, 5, 6, 7, 8, 9, 10, 11, 12, 13, 14, 15, 16, 17, 18, 19, 20, 21, 22, 23, 24, 25, 26, 27, 28, 29, 30, 31, 32, 33, 34, 35, 36, 37, 38, 39, 40, 41, 42, 200] [x] [8999, 10999, 31999] ty h ty1232 h1233 := gSg.tr (gSg.ss G1205 sS1206 (by decide)) g1235 (by decide) (by decide) (fun x hx => by cases hx)
    have rw1238 := gSg.raw g1235 rf1207 (fun w => by cases w)
    have rf1239 := (rw1238.2.2.1.trans kh1203)
    have rf1240 := (rw1238.2.2.2.trans rf1208)
    have dd1241 := gSg.rawd (ci := 12) (ps := [38, 37, 36, 35, 34, 33, 32, 31, 30, 29, 28, 27, 26, 25, 15, 14, 13, 12, 11, 10, 9, 4, 2]) g1235 rf1207 (fun w => by cases w) t1156 (by decide) dd1209
    have t1242 : ty1232 x = 200 := rw1238.1.trans t1156
    have t1243 : ty1232 c3 = 2 := gSg.typ g1235 sS1206.1 t1157 rTk_2
    have t1244 : ty1232 c23 = 3 := gSg.typ g1235 sS1206.1 t1158 rTk_3
    have t1245 : ty1232 c46 = 4 := gSg.typ g1235 sS1206.1 t1159 rTk_4
    have t1246 : ty1232 c72 = 5 := gSg.typ g1235 sS1206.1 t1160 rTk_5
    have t1247 : ty1232 c101 = 6 := gSg.typ g1235 sS1206.1 t1161 rTk_6
    have t1248 : ty1232 c133 = 7 := gSg.typ g1235 sS1206.1 t1162 rTk_7
    have t1249 : ty1232 c171 = 8 := gSg.typ g1235 sS1206.1 t1163 rTk_8
    have t1250 : ty1232 c209 = 9 := gSg.typ g1235 sS1206.1 t1164 rTk_9
    have t1251 : ty1232 c250 = 10 := gSg.typ g1235 sS1206.1 t1165 rTk_10
    have t1252 : ty1232 c294 = 11 := gSg.typ g1235 sS1206.1 t1166 rTk_11
    have t1253 : ty1232 c341 = 12 := gSg.typ g1235 sS1206.1 t1167 rTk_12
    have t1254 : ty1232 c391 = 13 := gSg.typ g1235 sS1206.1 t1168 rTk_13
    have t1255 : ty1232 c447 = 14 := gSg.typ g1235 sS1206.1 t1169 rTk_14
    have t1256 : ty1232 c503 = 15 := gSg.typ g1235 sS1206.1 t1170 rTk_15
    have t1257 : ty1232 c562 = 16 := gSg.typ g1235 sS1206.1 t1171 rTk_16
    have t1258 : ty1232 c624 = 17 := gSg.typ g1235 sS1206.1 t1172 rTk_17
    have t1259 : ty1232 c689 = 18 := gSg.typ g1235 sS1206.1 t1173 rTk_18
    have t1260 : ty1232 c760 = 19 := gSg.typ g1235 sS1206.1 t1174 rTk_19
    have t1261 : ty1232 c831 = 20 := gSg.typ g1235 sS1206.1 t1175 rTk_20
    have t1262 : ty1232 c905 = 21 := gSg.typ g1235 sS1206.1 t1176 rTk_21
    have t1263 : ty1232 c982 = 22 := gSg.typ g1235 sS1206.1 t1177 rTk_22
    have t1264 : ty1232 c1065 = 23 := gSg.typ g1235 sS1206.1 t1178 rTk_23
    have t1265 : ty1232 c1148 = 24 := gSg.typ g1235 sS1206.1 tc1148 rTk_24
    have s1266 := gSg.rawat g1235 rf1207 (fun w => by cases w) t1156 (by decide) s1210
    have s1267 := gSg.rawat g1235 rf1207 (fun w => by cases w) t1156 (by decide) s1211
    have s1268 := gSg.rawat g1235 rf1207 (fun w => by cases w) t1156 (by decide) s1212
    have s1269 := gSg.rawat g1235 rf1207 (fun w => by cases w) t1156 (by decide) s1213
    have s1270 := gSg.rawat g1235 rf1207 (fun w => by cases w) t1156 (by decide) s1214
    have s1271 := gSg.rawat g1235 rf1207 (fun w => by cases w) t1156 (by decide) s1215
    have s1272 := gSg.rawat g1235 rf1207 (fun w => by cases w) t1156 (by decide) s1216
    have s1273 := gSg.rawat g1235 rf1207 (fun w => by cases w) t1156 (by decide) s1217
    have s1274 := gSg.rawat g1235 rf1207 (fun w => by cases w) t1156 (by decide) s1218
    have s1275 := gSg.rawat g1235 rf1207 (fun w => by cases w) t1156 (by decide) s1219
    have s1276 := gSg.rawat g1235 rf1207 (fun w => by cases w) t1156 (by decide) s1220
    have s1277 := gSg.rawat g1235 rf1207 (fun w => by cases w) t1156 (by decide) s1221
    have s1278 := gSg.rawat g1235 rf1207 (fun w => by cases w) t1156 (by decide) s1222
    have s1279 := gSg.rawat g1235 rf1207 (fun w => by cases w) t1156 (by decide) s1223
    have s1280 := gSg.rawat g1235 rf1207 (fun w => by cases w) t1156 (by decide) s1224
    have s1281 := gSg.rawat g1235 rf1207 (fun w => by cases w) t1156 (by decide) s1225
    have s1282 := gSg.rawat g1235 rf1207 (fun w => by cases w) t1156 (by decide) s1226
    have s1283 := gSg.rawat g1235 rf1207 (fun w => by cases w) t1156 (by decide) s1227
    have s1284 := gSg.rawat g1235 rf1207 (fun w => by cases w) t1156 (by decide) s1228
    have s1285 := gSg.rawat g1235 rf1207 (fun w => by cases w) t1156 (by decide) s1229
    have s1286 := gSg.rawat g1235 rf1207 (fun w => by cases w) t1156 (by decide) s1230
    have s1287 := gSg.rawat g1235 rf1207 (fun w => by cases w) t1156 (by decide) s1231
    have s1288 := gSg.rawat g1235 rf1207 (fun w => by cases w) t1156 (by decide) eh1203
    have pr1289 : gNo [1, 26, 27, 28, 29, 30, 31, 32, 33, 34, 35, 36, 37, 38, 39, 40, 41, 42] ty1232 := gNo.gr g1235 (by decide +kernel) (gNo.sub (by decide +kernel) pr1201)
    have sS1290 : gSs rT 1027 ty1232 [8999, 10999, 31999] h1233 h1233 := gSs.rf g1235.1
    clear G1205 dd1209 pr1201 rf1207 rf1208 s1210 s1211 s1212 s1213 s1214 s1215 s1216 s1217 s1218 s1219 s1220 s1221 s1222 s1223 s1224 s1225 s1226 s1227 s1228 s1229 s1230 s1231 sS1206 t1156 t1157 t1158 t1159 t1160 t1161 t1162 t1163 t1164 t1165 t1166 t1167 t1168 t1169 t1170 t1171 t1172 t1173 t1174 t1175 t1176 t1177 t1178 uq1150
    refine gs_rput rfl (by decide) rfl sS1290.1 t1242 nx rw1238.2.1 rf1239 rfl (Or.inr rfl) (fun h1291 g1292 nh1291 mh1291 kh1291 zh1291 eh1291 fh1291 => ?_)
    have G1293 : gSg [1, 2, 3, 4, 5, 6, 7, 8, 9, 10, 11, 12, 13, 14, 15, 16, 17, 18, 19, 20, 21, 22, 23, 24, 25, 26, 27, 28, 29, 30, 31, 32, 33, 34, 35, 36, 37, 38, 39, 40, 41, 42, 200] [x] [8999, 10999, 31999] ty h ty1232 h1291 := gSg.tr (gSg.ss G1237 sS1290 (by decide)) g1292 (by decide) (by decide) (fun x hx => Or.inr hx)
    have sS1294 : gSs rT 1027 ty1232 [8999, 10999, 31999] h1291 h1291 := gSs.rf g1292.1
    have rf1295 := Nat.lt_of_lt_of_eq rw1238.2.1 nh1291.symm
    have rf1296 := zh1291.trans rf1240
    have dd1297 : ∀ k, ¬ k ∈ ([40, 38, 37, 36, 35, 34, 33, 32, 31, 30, 29, 28, 27, 26, 25, 15, 14, 13, 12, 11, 10, 9, 4, 2] : List Nat) → h1291.2.2.2.2 x k = defaultValue (gGG.2.1 12 k) := raw_dp fh1291 dd1241
    have s1298 := (fh1291 2 (by decide)).trans s1266
    have s1299 := (fh1291 4 (by decide)).trans s1267
    have s1300 := (fh1291 9 (by decide)).trans s1268
    have s1301 := (fh1291 10 (by decide)).trans s1269
    have s1302 := (fh1291 11 (by decide)).trans s1270
    have s1303 := (fh1291 12 (by decide)).trans s1271
    have s1304 := (fh1291 13 (by decide)).trans s1272
    have s1305 := (fh1291 14 (by decide)).trans s1273
    have s1306 := (fh1291 15 (by decide)).trans s1274
    have s1307 := (fh1291 25 (by decide)).trans s1275
    have s1308 := (fh1291 26 (by decide)).trans s1276
    have s1309 := (fh1291 27 (by decide)).trans s1277
    have s1310 := (fh1291 28 (by decide)).trans s1278
    have s1311 := (fh1291 29 (by decide)).trans s1279
    have s1312 := (fh1291 30 (by decide)).trans s1280
    have s1313 := (fh1291 31 (by decide)).trans s1281
    have s1314 := (fh1291 32 (by decide)).trans s1282
    have s1315 := (fh1291 33 (by decide)).trans s1283
    have s1316 := (fh1291 34 (by decide)).trans s1284
    have s1317 := (fh1291 35 (by decide)).trans s1285
    have s1318 := (fh1291 36 (by decide)).trans s1286
    have s1319 := (fh1291 37 (by decide)).trans s1287
    have s1320 := (fh1291 38 (by decide)).trans s1288
    clear G1237 dd1241 rf1239 rf1240 rw1238 s1266 s1267 s1268 s1269 s1270 s1271 s1272 s1273 s1274 s1275 s1276 s1277 s1278 s1279 s1280 s1281 s1282 s1283 s1284 s1285 s1286 s1287 s1288 sS1290
    refine gz_s 2 (pc' := 196) (L' := [some (.ref x), none, none, none, none]) (S' := [.int (zi 1024), .ref x]) rfl ?_
    refine gs_newr 26 rfl (by decide) rfl sS1294.1 (Nat.le_of_lt (Nat.lt_of_le_of_lt (gJ.cell sS1294.1 t1243 rfl).1 (gJ.cell sS1294.1 t1243 rfl).2.1)) (by omega) (by omega) rfl rfl (by show (1024 : Int) ≤ _; omega) (by show _ ≤ (1024 : Int); omega) (fun _ _ => gos_i (by decide) (by decide)) (fun ty1321 h1322 c1323 g1324 tc1323 lc1323 nc1323 mc1323 ec1323 dc1323 uc1323 => ?_)
    have gac1323 : h.1 ≤ c1323 := by have h8 := G1293.2.1; have h9 := sS1294.2.1; omega
    have uq1325 := uc1323 uq1236 (Or.inr (gNo.sub (by decide +kernel) pr1289))
    have G1326 : gSg [1, 2, 3, 4, 5, 6, 7, 8, 9, 10, 11, 12, 13, 14, 15, 16, 17, 18, 19, 20, 21, 22, 23, 24, 25, 26, 27, 28, 29, 30, 31, 32, 33, 34, 35, 36, 37, 38, 39, 40, 41, 42, 200] [x] [8999, 10999, 31999] ty h ty1321 h1322 := gSg.tr (gSg.ss G1293 sS1294 (by decide)) g1324 (by decide) (by decide) (fun x hx => by cases hx)
    have rw1327 := gSg.raw g1324 rf1295 (fun w => by cases w)
    have rf1328 := (rw1327.2.2.1.trans kh1291)
    have rf1329 := (rw1327.2.2.2.trans rf1296)
    have dd1330 := gSg.rawd (ci := 12) (ps := [40, 38, 37, 36, 35, 34, 33, 32, 31, 30, 29, 28, 27, 26, 25, 15, 14, 13, 12, 11, 10, 9, 4, 2]) g1324 rf1295 (fun w => by cases w) t1242 (by decide) dd1297
    have t1331 : ty1321 x = 200 := rw1327.1.trans t1242
    have t1332 : ty1321 c3 = 2 := gSg.typ g1324 sS1294.1 t1243 rTk_2
    have t1333 : ty1321 c23 = 3 := gSg.typ g1324 sS1294.1 t1244 rTk_3
    have t1334 : ty1321 c46 = 4 := gSg.typ g1324 sS1294.1 t1245 rTk_4
    have t1335 : ty1321 c72 = 5 := gSg.typ g1324 sS1294.1 t1246 rTk_5
    have t1336 : ty1321 c101 = 6 := gSg.typ g1324 sS1294.1 t1247 rTk_6
    have t1337 : ty1321 c133 = 7 := gSg.typ g1324 sS1294.1 t1248 rTk_7
    have t1338 : ty1321 c171 = 8 := gSg.typ g1324 sS1294.1 t1249 rTk_8
    have t1339 : ty1321 c209 = 9 := gSg.typ g1324 sS1294.1 t1250 rTk_9
    have t1340 : ty1321 c250 = 10 := gSg.typ g1324 sS1294.1 t1251 rTk_10
    have t1341 : ty1321 c294 = 11 := gSg.typ g1324 sS1294.1 t1252 rTk_11
    have t1342 : ty1321 c341 = 12 := gSg.typ g1324 sS1294.1 t1253 rTk_12
    have t1343 : ty1321 c391 = 13 := gSg.typ g1324 sS1294.1 t1254 rTk_13
    have t1344 : ty1321 c447 = 14 := gSg.typ g1324 sS1294.1 t1255 rTk_14
    have t1345 : ty1321 c503 = 15 := gSg.typ g1324 sS1294.1 t1256 rTk_15
    have t1346 : ty1321 c562 = 16 := gSg.typ g1324 sS1294.1 t1257 rTk_16
    have t1347 : ty1321 c624 = 17 := gSg.typ g1324 sS1294.1 t1258 rTk_17
    have t1348 : ty1321 c689 = 18 := gSg.typ g1324 sS1294.1 t1259 rTk_18
    have t1349 : ty1321 c760 = 19 := gSg.typ g1324 sS1294.1 t1260 rTk_19
    have t1350 : ty1321 c831 = 20 := gSg.typ g1324 sS1294.1 t1261 rTk_20
    have t1351 : ty1321 c905 = 21 := gSg.typ g1324 sS1294.1 t1262 rTk_21
    have t1352 : ty1321 c982 = 22 := gSg.typ g1324 sS1294.1 t1263 rTk_22
    have t1353 : ty1321 c1065 = 23 := gSg.typ g1324 sS1294.1 t1264 rTk_23
    have t1354 : ty1321 c1148 = 24 := gSg.typ g1324 sS1294.1 t1265 rTk_24
    have t1355 : ty1321 c1234 = 25 := gSg.typ g1324 sS1294.1 tc1234 rTk_25
    have s1356 := gSg.rawat g1324 rf1295 (fun w => by cases w) t1242 (by decide) s1298
    have s1357 := gSg.rawat g1324 rf1295 (fun w => by cases w) t1242 (by decide) s1299
    have s1358 := gSg.rawat g1324 rf1295 (fun w => by cases w) t1242 (by decide) s1300
    have s1359 := gSg.rawat g1324 rf1295 (fun w => by cases w) t1242 (by decide) s1301
    have s1360 := gSg.rawat g1324 rf1295 (fun w => by cases w) t1242 (by decide) s1302
    have s1361 := gSg.rawat g1324 rf1295 (fun w => by cases w) t1242 (by decide) s1303
    have s1362 := gSg.rawat g1324 rf1295 (fun w => by cases w) t1242 (by decide) s1304
    have s1363 := gSg.rawat g1324 rf1295 (fun w => by cases w) t1242 (by decide) s1305
    have s1364 := gSg.rawat g1324 rf1295 (fun w => by cases w) t1242 (by decide) s1306
    have s1365 := gSg.rawat g1324 rf1295 (fun w => by cases w) t1242 (by decide) s1307
    have s1366 := gSg.rawat g1324 rf1295 (fun w => by cases w) t1242 (by decide) s1308
    have s1367 := gSg.rawat g1324 rf1295 (fun w => by cases w) t1242 (by decide) s1309
    have s1368 := gSg.rawat g1324 rf1295 (fun w => by cases w) t1242 (by decide) s1310
    have s1369 := gSg.rawat g1324 rf1295 (fun w => by cases w) t1242 (by decide) s1311
    have s1370 := gSg.rawat g1324 rf1295 (fun w => by cases w) t1242 (by decide) s1312
    have s1371 := gSg.rawat g1324 rf1295 (fun w => by cases w) t1242 (by decide) s1313
    have s1372 := gSg.rawat g1324 rf1295 (fun w => by cases w) t1242 (by decide) s1314
    have s1373 := gSg.rawat g1324 rf1295 (fun w => by cases w) t1242 (by decide) s1315
    have s1374 := gSg.rawat g1324 rf1295 (fun w => by cases w) t1242 (by decide) s1316
    have s1375 := gSg.rawat g1324 rf1295 (fun w => by cases w) t1242 (by decide) s1317
    have s1376 := gSg.rawat g1324 rf1295 (fun w => by cases w) t1242 (by decide) s1318
    have s1377 := gSg.rawat g1324 rf1295 (fun w => by cases w) t1242 (by decide) s1319
    have s1378 := gSg.rawat g1324 rf1295 (fun w => by cases w) t1242 (by decide) s1320
    have s1379 := gSg.rawat g1324 rf1295 (fun w => by cases w) t1242 (by decide) eh1291
    have pr1380 : gNo [1, 27, 28, 29, 30, 31, 32, 33, 34, 35, 36, 37, 38, 39, 40, 41, 42] ty1321 := gNo.gr g1324 (by decide +kernel) (gNo.sub (by decide +kernel) pr1289)
    have sS1381 : gSs rT 1027 ty1321 [8999, 10999, 31999] h1322 h1322 := gSs.rf g1324.1
    clear G1293 dd1297 pr1289 rf1295 rf1296 s1298 s1299 s1300 s1301 s1302 s1303 s1304 s1305 s1306 s1307 s1308 s1309 s1310 s1311 s1312 s1313 s1314 s1315 s1316 s1317 s1318 s1319 s1320 sS1294 t1242 t1243 t1244 t1245 t1246 t1247 t1248 t1249 t1250 t1251 t1252 t1253 t1254 t1255 t1256 t1257 t1258 t1259 t1260 t1261 t1262 t1263 t1264 t1265 uq1236
    refine gs_rput rfl (by decide) rfl sS1381.1 t1331 nx rw1327.2.1 rf1328 rfl (Or.inr rfl) (fun h1382 g1383 nh1382 mh1382 kh1382 zh1382 eh1382 fh1382 => ?_)
    have G1384 : gSg [1, 2, 3, 4, 5, 6, 7, 8, 9, 10, 11, 12, 13, 14, 15, 16, 17, 18, 19, 20, 21, 22, 23, 24, 25, 26, 27, 28, 29, 30, 31, 32, 33, 34, 35, 36, 37, 38, 39, 40, 41, 42, 200] [x] [8999, 10999, 31999] ty h ty1321 h1382 := gSg.tr (gSg.ss G1326 sS1381 (by decide)) g1383 (by decide) (by decide) (fun x hx => Or.inr hx)
    have sS1385 : gSs rT 1027 ty1321 [8999, 10999, 31999] h1382 h1382 := gSs.rf g1383.1
    have rf1386 := Nat.lt_of_lt_of_eq rw1327.2.1 nh1382.symm
    have rf1387 := zh1382.trans rf1329
    have dd1388 : ∀ k, ¬ k ∈ ([49, 40, 38, 37, 36, 35, 34, 33, 32, 31, 30, 29, 28, 27, 26, 25, 15, 14, 13, 12, 11, 10, 9, 4, 2] : List Nat) → h1382.2.2.2.2 x k = defaultValue (gGG.2.1 12 k) := raw_dp fh1382 dd1330
    have s1389 := (fh1382 2 (by decide)).trans s1356
    have s1390 := (fh1382 4 (by decide)).trans s1357
    have s1391 := (fh1382 9 (by decide)).trans s1358
    have s1392 := (fh1382 10 (by decide)).trans s1359
    have s1393 := (fh1382 11 (by decide)).trans s1360
    have s1394 := (fh1382 12 (by decide)).trans s1361
    have s1395 := (fh1382 13 (by decide)).trans s1362
    have s1396 := (fh1382 14 (by decide)).trans s1363
    have s1397 := (fh1382 15 (by decide)).trans s1364
    have s1398 := (fh1382 25 (by decide)).trans s1365
    have s1399 := (fh1382 26 (by decide)).trans s1366
    have s1400 := (fh1382 27 (by decide)).trans s1367
    have s1401 := (fh1382 28 (by decide)).trans s1368
    have s1402 := (fh1382 29 (by decide)).trans s1369
    have s1403 := (fh1382 30 (by decide)).trans s1370
    have s1404 := (fh1382 31 (by decide)).trans s1371
    have s1405 := (fh1382 32 (by decide)).trans s1372
    have s1406 := (fh1382 33 (by decide)).trans s1373
    have s1407 := (fh1382 34 (by decide)).trans s1374
    have s1408 := (fh1382 35 (by decide)).trans s1375
    have s1409 := (fh1382 36 (by decide)).trans s1376
    have s1410 := (fh1382 37 (by decide)).trans s1377
    have s1411 := (fh1382 38 (by decide)).trans s1378
    have s1412 := (fh1382 40 (by decide)).trans s1379
    clear G1326 dd1330 rf1328 rf1329 rw1327 s1356 s1357 s1358 s1359 s1360 s1361 s1362 s1363 s1364 s1365 s1366 s1367 s1368 s1369 s1370 s1371 s1372 s1373 s1374 s1375 s1376 s1377 s1378 s1379 sS1381
    have lp1413 := cmlp1413 d hJ x nx c3 c23 c46 c72 c101 c133 c171 c209 c250 c294 c341 c391 c447 c503 c562 c624 c689 c760 c831 c905 c982 c1065 c1148 c1234 c1323
    have G3573 : gSg [1, 2, 3, 4, 5, 6, 7, 8, 9, 10, 11, 12, 13, 14, 15, 16, 17, 18, 19, 20, 21, 22, 23, 24, 25, 26, 27, 28, 29, 30, 31, 32, 33, 34, 35, 36, 37, 38, 39, 40, 41, 42, 200] [x] [8999, 10999, 31999] ty h ty1321 h1382 := gSg.ss G1384 sS1385 (by decide)
    exact gz_wk (lp1413 _ ty1321 h1382  (Nat.lt_succ_self _) G3573 uq1325 t1331 t1332 t1333 t1334 t1335 t1336 t1337 t1338 t1339 t1340 t1341 t1342 t1343 t1344 t1345 t1346 t1347 t1348 t1349 t1350 t1351 t1352 t1353 t1354 t1355 tc1323 (by omega) (by omega) s1389 s1390 s1391 s1392 s1393 s1394 s1395 s1396 s1397 s1398 s1399 s1400 s1401 s1402 s1403 s1404 s1405 s1406 s1407 s1408 s1409 s1410 s1411 s1412 eh1382 pr1380 rf1386 kh1382 rf1387 dd1388) (gLw.s (gLw.n (gLw.n (gLw.n (gLw.n gLw.z)))))
set_option maxRecDepth 20000 in
set_option maxHeartbeats 4000000 in
theorem cmlp755 (d : Nat) {ty : Nat → Nat} {h : gH} (hJ : gJ rT 1027 ty h) (x : Nat) (nx : 1027 ≤ x) (c3 c23 c46 c72 c101 c133 c171 c209 c250 c294 c341 c391 c447 c503 c562 c624 c689 : Nat) : ∀ (fu : Nat) (ty757 : Nat → Nat) (h756 : gH), ((1 : Int)).toNat < fu → gSg [1, 2, 3, 4, 5, 6, 7, 8, 9, 10, 11, 12, 13, 14, 15, 16, 17, 18, 19, 20, 21, 22, 23, 24, 25, 26, 27, 28, 29, 30, 31, 32, 33, 34, 35, 36, 37, 38, 39, 40, 41, 42, 200] [x] [8999, 10999, 31999] ty h ty757 h756 → gUq ty757 → ty757 x = 200 → ty757 c3 = 2 → ty757 c23 = 3 → ty757 c46 = 4 → ty757 c72 = 5 → ty757 c101 = 6 → ty757 c133 = 7 → ty757 c171 = 8 → ty757 c209 = 9 → ty757 c250 = 10 → ty757 c294 = 11 → ty757 c341 = 12 → ty757 c391 = 13 → ty757 c447 = 14 → ty757 c503 = 15 → ty757 c562 = 16 → ty757 c624 = 17 → ty757 c689 = 18 → ((h756.1 : Int) = h.1 + 17) → ((h756.2.1 : Int) = h.2.1 + 10776) → h756.2.2.2.2 x 2 = .ref c3 → h756.2.2.2.2 x 4 = .ref c23 → h756.2.2.2.2 x 9 = .ref c46 → h756.2.2.2.2 x 10 = .ref c72 → h756.2.2.2.2 x 11 = .ref c101 → h756.2.2.2.2 x 12 = .ref c133 → h756.2.2.2.2 x 13 = .ref c171 → h756.2.2.2.2 x 14 = .ref c209 → h756.2.2.2.2 x 15 = .ref c250 → h756.2.2.2.2 x 25 = .ref c294 → h756.2.2.2.2 x 26 = .ref c341 → h756.2.2.2.2 x 27 = .ref c391 → h756.2.2.2.2 x 28 = .ref c447 → h756.2.2.2.2 x 29 = .ref c503 → h756.2.2.2.2 x 30 = .ref c562 → h756.2.2.2.2 x 31 = .ref c624 → h756.2.2.2.2 x 32 = .ref c689 → gNo [1, 19, 20, 21, 22, 23, 24, 25, 26, 27, 28, 29, 30, 31, 32, 33, 34, 35, 36, 37, 38, 39, 40, 41, 42] ty757 → x < h756.1 → h756.2.2.1 x = some (.inr 12) → h756.2.2.2.1 x = 0 → (∀ k, ¬ k ∈ ([32, 31, 30, 29, 28, 27, 26, 25, 15, 14, 13, 12, 11, 10, 9, 4, 2] : List Nat) → h756.2.2.2.2 x k = defaultValue (gGG.2.1 12 k)) → gz gPP gGG gcn (d + 1) gt130 139 [some (.ref x), none, none, none, none] [] h756 (fun q _ => ∃ ty9 : Nat → Nat, gSg [1, 2, 3, 4, 5, 6, 7, 8, 9, 10, 11, 12, 13, 14, 15, 16, 17, 18, 19, 20, 21, 22, 23, 24, 25, 26, 27, 28, 29, 30, 31, 32, 33, 34, 35, 36, 37, 38, 39, 40, 41, 42, 200] [x] [8999, 10999, 31999] ty h ty9 q.2.2 ∧ ∃ ip n1 cw ch iv1 : Int, ty9 x = 1 ∧ gfin gt130 q.1 q.2.1 = some none ∧ q.2.2.2.2.2.2 x 16 = .int (zi ip) ∧ 0 ≤ ip ∧ ip ≤ 1 ∧ q.2.2.2.2.2.2 x 53 = .int (zi n1) ∧ 0 ≤ n1 ∧ n1 ≤ 10 ∧ q.2.2.2.2.2.2 x 50 = .int (zi cw) ∧ 0 ≤ cw ∧ cw ≤ 32 ∧ q.2.2.2.2.2.2 x 51 = .int (zi ch) ∧ 0 ≤ ch ∧ ch ≤ 32 ∧ q.2.2.2.2.2.2 x 52 = .int (zi iv1) ∧ 0 ≤ iv1 ∧ iv1 ≤ 100 ∧ (ip = 0) ∧ (n1 = 0) ∧ (cw = 0) ∧ (ch = 0) ∧ (iv1 = 0) ∧ ((q.2.2.1 : Int) = h.1 + 41) ∧ ((q.2.2.2.1 : Int) = h.2.1 + 88652) ∧ (gTs ty9 0 q.2.2) ∧ (gOy ty9 31 (-1) 64 q.2.2) ∧ gUq ty9) := by
  intro fu
  induction fu with
  | zero => intro ty757 h756  hm; exact absurd hm (Nat.not_lt_zero _)
  | succ fu ihlp755 =>
    intro ty757 h756  lp755m lp755G lp755u lp755c0 lp755c1 lp755c2 lp755c3 lp755c4 lp755c5 lp755c6 lp755c7 lp755c8 lp755c9 lp755c10 lp755c11 lp755c12 lp755c13 lp755c14 lp755c15 lp755c16 lp755c17 lp755f0 lp755f1 lp755k0 lp755k1 lp755k2 lp755k3 lp755k4 lp755k5 lp755k6 lp755k7 lp755k8 lp755k9 lp755k10 lp755k11 lp755k12 lp755k13 lp755k14 lp755k15 lp755k16 lp755k17 lp755w0 lp755w1 lp755w2 lp755w3
    have sh756 : gSs rT 1027 ty757 [8999, 10999, 31999] h756 h756 := gSs.rf lp755G.1
    refine gz_s 2 (pc' := 141) (L' := [some (.ref x), none, none, none, none]) (S' := [.int (zi 3), .ref x]) rfl ?_
    refine gs_newr 19 rfl (by decide) rfl sh756.1 (Nat.le_of_lt (Nat.lt_of_le_of_lt (gJ.cell sh756.1 lp755c1 rfl).1 (gJ.cell sh756.1 lp755c1 rfl).2.1)) (by omega) (by omega) rfl rfl (by show (3 : Int) ≤ _; omega) (by show _ ≤ (3 : Int); omega) (fun _ _ => gos_i (by decide) (by decide)) (fun ty758 h759 c760 g761 tc760 lc760 nc760 mc760 ec760 dc760 uc760 => ?_)
    have gac760 : h.1 ≤ c760 := by have h8 := lp755G.2.1; have h9 := sh756.2.1; omega
    have uq762 := uc760 lp755u (Or.inr (gNo.sub (by decide +kernel) lp755k17))
    have G763 : gSg [1, 2, 3, 4, 5, 6, 7, 8, 9, 10, 11, 12, 13, 14, 15, 16, 17, 18, 19, 20, 21, 22, 23, 24, 25, 26, 27, 28, 29, 30, 31, 32, 33, 34, 35, 36, 37, 38, 39, 40, 41, 42, 200] [x] [8999, 10999, 31999] ty h ty758 h759 := gSg.tr (gSg.ss lp755G sh756 (by decide)) g761 (by decide) (by decide) (fun x hx => by cases hx)
    have rw764 := gSg.raw g761 lp755w0 (fun w => by cases w)
    have rf765 := (rw764.2.2.1.trans lp755w1)
    have rf766 := (rw764.2.2.2.trans lp755w2)
    have dd767 := gSg.rawd (ci := 12) (ps := [32, 31, 30, 29, 28, 27, 26, 25, 15, 14, 13, 12, 11, 10, 9, 4, 2]) g761 lp755w0 (fun w => by cases w) lp755c0 (by decide) lp755w3
    have t768 : ty758 x = 200 := rw764.1.trans lp755c0
    have t769 : ty758 c3 = 2 := gSg.typ g761 sh756.1 lp755c1 rTk_2
    have t770 : ty758 c23 = 3 := gSg.typ g761 sh756.1 lp755c2 rTk_3
    have t771 : ty758 c46 = 4 := gSg.typ g761 sh756.1 lp755c3 rTk_4
    have t772 : ty758 c72 = 5 := gSg.typ g761 sh756.1 lp755c4 rTk_5
    have t773 : ty758 c101 = 6 := gSg.typ g761 sh756.1 lp755c5 rTk_6
    have t774 : ty758 c133 = 7 := gSg.typ g761 sh756.1 lp755c6 rTk_7
    have t775 : ty758 c171 = 8 := gSg.typ g761 sh756.1 lp755c7 rTk_8
    have t776 : ty758 c209 = 9 := gSg.typ g761 sh756.1 lp755c8 rTk_9
    have t777 : ty758 c250 = 10 := gSg.typ g761 sh756.1 lp755c9 rTk_10
    have t778 : ty758 c294 = 11 := gSg.typ g761 sh756.1 lp755c10 rTk_11
    have t779 : ty758 c341 = 12 := gSg.typ g761 sh756.1 lp755c11 rTk_12
    have t780 : ty758 c391 = 13 := gSg.typ g761 sh756.1 lp755c12 rTk_13
    have t781 : ty758 c447 = 14 := gSg.typ g761 sh756.1 lp755c13 rTk_14
    have t782 : ty758 c503 = 15 := gSg.typ g761 sh756.1 lp755c14 rTk_15
    have t783 : ty758 c562 = 16 := gSg.typ g761 sh756.1 lp755c15 rTk_16
    have t784 : ty758 c624 = 17 := gSg.typ g761 sh756.1 lp755c16 rTk_17
    have t785 : ty758 c689 = 18 := gSg.typ g761 sh756.1 lp755c17 rTk_18
    have s786 := gSg.rawat g761 lp755w0 (fun w => by cases w) lp755c0 (by decide) lp755k0
    have s787 := gSg.rawat g761 lp755w0 (fun w => by cases w) lp755c0 (by decide) lp755k1
    have s788 := gSg.rawat g761 lp755w0 (fun w => by cases w) lp755c0 (by decide) lp755k2
    have s789 := gSg.rawat g761 lp755w0 (fun w => by cases w) lp755c0 (by decide) lp755k3
    have s790 := gSg.rawat g761 lp755w0 (fun w => by cases w) lp755c0 (by decide) lp755k4
    have s791 := gSg.rawat g761 lp755w0 (fun w => by cases w) lp755c0 (by decide) lp755k5
    have s792 := gSg.rawat g761 lp755w0 (fun w => by cases w) lp755c0 (by decide) lp755k6
    have s793 := gSg.rawat g761 lp755w0 (fun w => by cases w) lp755c0 (by decide) lp755k7
    have s794 := gSg.rawat g761 lp755w0 (fun w => by cases w) lp755c0 (by decide) lp755k8
    have s795 := gSg.rawat g761 lp755w0 (fun w => by cases w) lp755c0 (by decide) lp755k9
    have s796 := gSg.rawat g761 lp755w0 (fun w => by cases w) lp755c0 (by decide) lp755k10
    have s797 := gSg.rawat g761 lp755w0 (fun w => by cases w) lp755c0 (by decide) lp755k11
    have s798 := gSg.rawat g761 lp755w0 (fun w => by cases w) lp755c0 (by decide) lp755k12
    have s799 := gSg.rawat g761 lp755w0 (fun w => by cases w) lp755c0 (by decide) lp755k13
    have s800 := gSg.rawat g761 lp755w0 (fun w => by cases w) lp755c0 (by decide) lp755k14
    have s801 := gSg.rawat g761 lp755w0 (fun w => by cases w) lp755c0 (by decide) lp755k15
    have s802 := gSg.rawat g761 lp755w0 (fun w => by cases w) lp755c0 (by decide) lp755k16
    have pr803 : gNo [1, 20, 21, 22, 23, 24, 25, 26, 27, 28, 29, 30, 31, 32, 33, 34, 35, 36, 37, 38, 39, 40, 41, 42] ty758 := gNo.gr g761 (by decide +kernel) (gNo.sub (by decide +kernel) lp755k17)
    have sS804 : gSs rT 1027 ty758 [8999, 10999, 31999] h759 h759 := gSs.rf g761.1
    refine gs_rput rfl (by decide) rfl sS804.1 t768 nx rw764.2.1 rf765 rfl (Or.inr rfl) (fun h805 g806 nh805 mh805 kh805 zh805 eh805 fh805 => ?_)
    have G807 : gSg [1, 2, 3, 4, 5, 6, 7, 8, 9, 10, 11, 12, 13, 14, 15, 16, 17, 18, 19, 20, 21, 22, 23, 24, 25, 26, 27, 28, 29, 30, 31, 32, 33, 34, 35, 36, 37, 38, 39, 40, 41, 42, 200] [x] [8999, 10999, 31999] ty h ty758 h805 := gSg.tr (gSg.ss G763 sS804 (by decide)) g806 (by decide) (by decide) (fun x hx => Or.inr hx)
    have sS808 : gSs rT 1027 ty758 [8999, 10999, 31999] h805 h805 := gSs.rf g806.1
    have rf809 := Nat.lt_of_lt_of_eq rw764.2.1 nh805.symm
    have rf810 := zh805.trans rf766
    have dd811 : ∀ k, ¬ k ∈ ([33, 32, 31, 30, 29, 28, 27, 26, 25, 15, 14, 13, 12, 11, 10, 9, 4, 2] : List Nat) → h805.2.2.2.2 x k = defaultValue (gGG.2.1 12 k) := raw_dp fh805 dd767
    have s812 := (fh805 2 (by decide)).trans s786
    have s813 := (fh805 4 (by decide)).trans s787
    have s814 := (fh805 9 (by decide)).trans s788
    have s815 := (fh805 10 (by decide)).trans s789
    have s816 := (fh805 11 (by decide)).trans s790
    have s817 := (fh805 12 (by decide)).trans s791
    have s818 := (fh805 13 (by decide)).trans s792
    have s819 := (fh805 14 (by decide)).trans s793
    have s820 := (fh805 15 (by decide)).trans s794
    have s821 := (fh805 25 (by decide)).trans s795
    have s822 := (fh805 26 (by decide)).trans s796
    have s823 := (fh805 27 (by decide)).trans s797
    have s824 := (fh805 28 (by decide)).trans s798
    have s825 := (fh805 29 (by decide)).trans s799
    have s826 := (fh805 30 (by decide)).trans s800
    have s827 := (fh805 31 (by decide)).trans s801
    have s828 := (fh805 32 (by decide)).trans s802
    clear G763 dd767 rf765 rf766 rw764 s786 s787 s788 s789 s790 s791 s792 s793 s794 s795 s796 s797 s798 s799 s800 s801 s802 sS804
    refine gz_s 2 (pc' := 148) (L' := [some (.ref x), none, none, none, none]) (S' := [.int (zi 3), .ref x]) rfl ?_
    refine gs_newr 20 rfl (by decide) rfl sS808.1 (Nat.le_of_lt (Nat.lt_of_le_of_lt (gJ.cell sS808.1 t769 rfl).1 (gJ.cell sS808.1 t769 rfl).2.1)) (by omega) (by omega) rfl rfl (by show (3 : Int) ≤ _; omega) (by show _ ≤ (3 : Int); omega) (fun _ _ => gos_i (by decide) (by decide)) (fun ty829 h830 c831 g832 tc831 lc831 nc831 mc831 ec831 dc831 uc831 => ?_)
    have gac831 : h.1 ≤ c831 := by have h8 := G807.2.1; have h9 := sS808.2.1; omega
    have uq833 := uc831 uq762 (Or.inr (gNo.sub (by decide +kernel) pr803))
    have G834 : gSg [1, 2, 3, 4, 5, 6, 7, 8, 9, 10, 11, 12, 13, 14, 15, 16, 17, 18, 19, 20, 21, 22, 23, 24, 25, 26, 27, 28, 29, 30, 31, 32, 33, 34, 35, 36, 37, 38, 39, 40, 41, 42, 200] [x] [8999, 10999, 31999] ty h ty829 h830 := gSg.tr (gSg.ss G807 sS808 (by decide)) g832 (by decide) (by decide) (fun x hx => by cases hx)
    have rw835 := gSg.raw g832 rf809 (fun w => by cases w)
    have rf836 := (rw835.2.2.1.trans kh805)
    have rf837 := (rw835.2.2.2.trans rf810)
    have dd838 := gSg.rawd (ci := 12) (ps := [33, 32, 31, 30, 29, 28, 27, 26, 25, 15, 14, 13, 12, 11, 10, 9, 4, 2]) g832 rf809 (fun w => by cases w) t768 (by decide) dd811
    have t839 : ty829 x = 200 := rw835.1.trans t768
    have t840 : ty829 c3 = 2 := gSg.typ g832 sS808.1 t769 rTk_2
    have t841 : ty829 c23 = 3 := gSg.typ g832 sS808.1 t770 rTk_3
    have t842 : ty829 c46 = 4 := gSg.typ g832 sS808.1 t771 rTk_4
    have t843 : ty829 c72 = 5 := gSg.typ g832 sS808.1 t772 rTk_5
    have t844 : ty829 c101 = 6 := gSg.typ g832 sS808.1 t773 rTk_6
    have t845 : ty829 c133 = 7 := gSg.typ g832 sS808.1 t774 rTk_7
    have t846 : ty829 c171 = 8 := gSg.typ g832 sS808.1 t775 rTk_8
    have t847 : ty829 c209 = 9 := gSg.typ g832 sS808.1 t776 rTk_9
    have t848 : ty829 c250 = 10 := gSg.typ g832 sS808.1 t777 rTk_10
    have t849 : ty829 c294 = 11 := gSg.typ g832 sS808.1 t778 rTk_11
    have t850 : ty829 c341 = 12 := gSg.typ g832 sS808.1 t779 rTk_12
    have t851 : ty829 c391 = 13 := gSg.typ g832 sS808.1 t780 rTk_13
    have t852 : ty829 c447 = 14 := gSg.typ g832 sS808.1 t781 rTk_14
    have t853 : ty829 c503 = 15 := gSg.typ g832 sS808.1 t782 rTk_15
    have t854 : ty829 c562 = 16 := gSg.typ g832 sS808.1 t783 rTk_16
    have t855 : ty829 c624 = 17 := gSg.typ g832 sS808.1 t784 rTk_17
    have t856 : ty829 c689 = 18 := gSg.typ g832 sS808.1 t785 rTk_18
    have t857 : ty829 c760 = 19 := gSg.typ g832 sS808.1 tc760 rTk_19
    have s858 := gSg.rawat g832 rf809 (fun w => by cases w) t768 (by decide) s812
    have s859 := gSg.rawat g832 rf809 (fun w => by cases w) t768 (by decide) s813
    have s860 := gSg.rawat g832 rf809 (fun w => by cases w) t768 (by decide) s814
    have s861 := gSg.rawat g832 rf809 (fun w => by cases w) t768 (by decide) s815
    have s862 := gSg.rawat g832 rf809 (fun w => by cases w) t768 (by decide) s816
    have s863 := gSg.rawat g832 rf809 (fun w => by cases w) t768 (by decide) s817
    have s864 := gSg.rawat g832 rf809 (fun w => by cases w) t768 (by decide) s818
    have s865 := gSg.rawat g832 rf809 (fun w => by cases w) t768 (by decide) s819
    have s866 := gSg.rawat g832 rf809 (fun w => by cases w) t768 (by decide) s820
    have s867 := gSg.rawat g832 rf809 (fun w => by cases w) t768 (by decide) s821
    have s868 := gSg.rawat g832 rf809 (fun w => by cases w) t768 (by decide) s822
    have s869 := gSg.rawat g832 rf809 (fun w => by cases w) t768 (by decide) s823
    have s870 := gSg.rawat g832 rf809 (fun w => by cases w) t768 (by decide) s824
    have s871 := gSg.rawat g832 rf809 (fun w => by cases w) t768 (by decide) s825
    have s872 := gSg.rawat g832 rf809 (fun w => by cases w) t768 (by decide) s826
    have s873 := gSg.rawat g832 rf809 (fun w => by cases w) t768 (by decide) s827
    have s874 := gSg.rawat g832 rf809 (fun w => by cases w) t768 (by decide) s828
    have s875 := gSg.rawat g832 rf809 (fun w => by cases w) t768 (by decide) eh805
    have pr876 : gNo [1, 21, 22, 23, 24, 25, 26, 27, 28, 29, 30, 31, 32, 33, 34, 35, 36, 37, 38, 39, 40, 41, 42] ty829 := gNo.gr g832 (by decide +kernel) (gNo.sub (by decide +kernel) pr803)
    have sS877 : gSs rT 1027 ty829 [8999, 10999, 31999] h830 h830 := gSs.rf g832.1
    clear G807 dd811 pr803 rf809 rf810 s812 s813 s814 s815 s816 s817 s818 s819 s820 s821 s822 s823 s824 s825 s826 s827 s828 sS808 t768 t769 t770 t771 t772 t773 t774 t775 t776 t777 t778 t779 t780 t781 t782 t783 t784 t785 uq762
    refine gs_rput rfl (by decide) rfl sS877.1 t839 nx rw835.2.1 rf836 rfl (Or.inr rfl) (fun h878 g879 nh878 mh878 kh878 zh878 eh878 fh878 => ?_)
    have G880 : gSg [1, 2, 3, 4, 5, 6, 7, 8, 9, 10, 11, 12, 13, 14, 15, 16, 17, 18, 19, 20, 21, 22, 23, 24, 25, 26, 27, 28, 29, 30, 31, 32, 33, 34, 35, 36, 37, 38, 39, 40, 41, 42, 200] [x] [8999, 10999, 31999] ty h ty829 h878 := gSg.tr (gSg.ss G834 sS877 (by decide)) g879 (by decide) (by decide) (fun x hx => Or.inr hx)
    have sS881 : gSs rT 1027 ty829 [8999, 10999, 31999] h878 h878 := gSs.rf g879.1
    have rf882 := Nat.lt_of_lt_of_eq rw835.2.1 nh878.symm
    have rf883 := zh878.trans rf837
    have dd884 : ∀ k, ¬ k ∈ ([34, 33, 32, 31, 30, 29, 28, 27, 26, 25, 15, 14, 13, 12, 11, 10, 9, 4, 2] : List Nat) → h878.2.2.2.2 x k = defaultValue (gGG.2.1 12 k) := raw_dp fh878 dd838
    have s885 := (fh878 2 (by decide)).trans s858
    have s886 := (fh878 4 (by decide)).trans s859
    have s887 := (fh878 9 (by decide)).trans s860
    have s888 := (fh878 10 (by decide)).trans s861
    have s889 := (fh878 11 (by decide)).trans s862
    have s890 := (fh878 12 (by decide)).trans s863
    have s891 := (fh878 13 (by decide)).trans s864
    have s892 := (fh878 14 (by decide)).trans s865
    have s893 := (fh878 15 (by decide)).trans s866
    have s894 := (fh878 25 (by decide)).trans s867
    have s895 := (fh878 26 (by decide)).trans s868
    have s896 := (fh878 27 (by decide)).trans s869
    have s897 := (fh878 28 (by decide)).trans s870
    have s898 := (fh878 29 (by decide)).trans s871
    have s899 := (fh878 30 (by decide)).trans s872
    have s900 := (fh878 31 (by decide)).trans s873
    have s901 := (fh878 32 (by decide)).trans s874
    have s902 := (fh878 33 (by decide)).trans s875
    clear G834 dd838 rf836 rf837 rw835 s858 s859 s860 s861 s862 s863 s864 s865 s866 s867 s868 s869 s870 s871 s872 s873 s874 s875 sS877
    refine gz_s 2 (pc' := 155) (L' := [some (.ref x), none, none, none, none]) (S' := [.int (zi 3), .ref x]) rfl ?_
    refine gs_newr 21 rfl (by decide) rfl sS881.1 (Nat.le_of_lt (Nat.lt_of_le_of_lt (gJ.cell sS881.1 t840 rfl).1 (gJ.cell sS881.1 t840 rfl).2.1)) (by omega) (by omega) rfl rfl (by show (3 : Int) ≤ _; omega) (by show _ ≤ (3 : Int); omega) (fun _ _ => gos_i (by decide) (by decide)) (fun ty903 h904 c905 g906 tc905 lc905 nc905 mc905 ec905 dc905 uc905 => ?_)
    have gac905 : h.1 ≤ c905 := by have h8 := G880.2.1; have h9 := sS881.2.1; omega
    have uq907 := uc905 uq833 (Or.inr (gNo.sub (by decide +kernel) pr876))
    have G908 : gSg [1, 2, 3, 4, 5, 6, 7, 8, 9, 10, 11, 12, 13, 14, 15, 16, 17, 18, 19, 20, 21, 22, 23, 24, 25, 26, 27, 28, 29, 30, 31, 32, 33, 34, 35, 36, 37, 38, 39, 40, 41, 42, 200] [x] [8999, 10999, 31999] ty h ty903 h904 := gSg.tr (gSg.ss G880 sS881 (by decide)) g906 (by decide) (by decide) (fun x hx => by cases hx)
    have rw909 := gSg.raw g906 rf882 (fun w => by cases w)
    have rf910 := (rw909.2.2.1.trans kh878)
    have rf911 := (rw909.2.2.2.trans rf883)
    have dd912 := gSg.rawd (ci := 12) (ps := [34, 33, 32, 31, 30, 29, 28, 27, 26, 25, 15, 14, 13, 12, 11, 10, 9, 4, 2]) g906 rf882 (fun w => by cases w) t839 (by decide) dd884
    have t913 : ty903 x = 200 := rw909.1.trans t839
    have t914 : ty903 c3 = 2 := gSg.typ g906 sS881.1 t840 rTk_2
    have t915 : ty903 c23 = 3 := gSg.typ g906 sS881.1 t841 rTk_3
    have t916 : ty903 c46 = 4 := gSg.typ g906 sS881.1 t842 rTk_4
    have t917 : ty903 c72 = 5 := gSg.typ g906 sS881.1 t843 rTk_5
    have t918 : ty903 c101 = 6 := gSg.typ g906 sS881.1 t844 rTk_6
    have t919 : ty903 c133 = 7 := gSg.typ g906 sS881.1 t845 rTk_7
    have t920 : ty903 c171 = 8 := gSg.typ g906 sS881.1 t846 rTk_8
    have t921 : ty903 c209 = 9 := gSg.typ g906 sS881.1 t847 rTk_9
    have t922 : ty903 c250 = 10 := gSg.typ g906 sS881.1 t848 rTk_10
    have t923 : ty903 c294 = 11 := gSg.typ g906 sS881.1 t849 rTk_11
    have t924 : ty903 c341 = 12 := gSg.typ g906 sS881.1 t850 rTk_12
    have t925 : ty903 c391 = 13 := gSg.typ g906 sS881.1 t851 rTk_13
    have t926 : ty903 c447 = 14 := gSg.typ g906 sS881.1 t852 rTk_14
    have t927 : ty903 c503 = 15 := gSg.typ g906 sS881.1 t853 rTk_15
    have t928 : ty903 c562 = 16 := gSg.typ g906 sS881.1 t854 rTk_16
    have t929 : ty903 c624 = 17 := gSg.typ g906 sS881.1 t855 rTk_17
    have t930 : ty903 c689 = 18 := gSg.typ g906 sS881.1 t856 rTk_18
    have t931 : ty903 c760 = 19 := gSg.typ g906 sS881.1 t857 rTk_19
    have t932 : ty903 c831 = 20 := gSg.typ g906 sS881.1 tc831 rTk_20
    have s933 := gSg.rawat g906 rf882 (fun w => by cases w) t839 (by decide) s885
    have s934 := gSg.rawat g906 rf882 (fun w => by cases w) t839 (by decide) s886
    have s935 := gSg.rawat g906 rf882 (fun w => by cases w) t839 (by decide) s887
    have s936 := gSg.rawat g906 rf882 (fun w => by cases w) t839 (by decide) s888
    have s937 := gSg.rawat g906 rf882 (fun w => by cases w) t839 (by decide) s889
    have s938 := gSg.rawat g906 rf882 (fun w => by cases w) t839 (by decide) s890
    have s939 := gSg.rawat g906 rf882 (fun w => by cases w) t839 (by decide) s891
    have s940 := gSg.rawat g906 rf882 (fun w => by cases w) t839 (by decide) s892
    have s941 := gSg.rawat g906 rf882 (fun w => by cases w) t839 (by decide) s893
    have s942 := gSg.rawat g906 rf882 (fun w => by cases w) t839 (by decide) s894
    have s943 := gSg.rawat g906 rf882 (fun w => by cases w) t839 (by decide) s895
    have s944 := gSg.rawat g906 rf882 (fun w => by cases w) t839 (by decide) s896
    have s945 := gSg.rawat g906 rf882 (fun w => by cases w) t839 (by decide) s897
    have s946 := gSg.rawat g906 rf882 (fun w => by cases w) t839 (by decide) s898
    have s947 := gSg.rawat g906 rf882 (fun w => by cases w) t839 (by decide) s899
    have s948 := gSg.rawat g906 rf882 (fun w => by cases w) t839 (by decide) s900
    have s949 := gSg.rawat g906 rf882 (fun w => by cases w) t839 (by decide) s901
    have s950 := gSg.rawat g906 rf882 (fun w => by cases w) t839 (by decide) s902
    have s951 := gSg.rawat g906 rf882 (fun w => by cases w) t839 (by decide) eh878
    have pr952 : gNo [1, 22, 23, 24, 25, 26, 27, 28, 29, 30, 31, 32, 33, 34, 35, 36, 37, 38, 39, 40, 41, 42] ty903 := gNo.gr g906 (by decide +kernel) (gNo.sub (by decide +kernel) pr876)
    have sS953 : gSs rT 1027 ty903 [8999, 10999, 31999] h904 h904 := gSs.rf g906.1
    clear G880 dd884 pr876 rf882 rf883 s885 s886 s887 s888 s889 s890 s891 s892 s893 s894 s895 s896 s897 s898 s899 s900 s901 s902 sS881 t839 t840 t841 t842 t843 t844 t845 t846 t847 t848 t849 t850 t851 t852 t853 t854 t855 t856 t857 uq833
    refine gs_rput rfl (by decide) rfl sS953.1 t913 nx rw909.2.1 rf910 rfl (Or.inr rfl) (fun h954 g955 nh954 mh954 kh954 zh954 eh954 fh954 => ?_)
    have G956 : gSg [1, 2, 3, 4, 5, 6, 7, 8, 9, 10, 11, 12, 13, 14, 15, 16, 17, 18, 19, 20, 21, 22, 23, 24, 25, 26, 27, 28, 29, 30, 31, 32, 33, 34, 35, 36, 37, 38, 39, 40, 41, 42, 200] [x] [8999, 10999, 31999] ty h ty903 h954 := gSg.tr (gSg.ss G908 sS953 (by decide)) g955 (by decide) (by decide) (fun x hx => Or.inr hx)
    have sS957 : gSs rT 1027 ty903 [8999, 10999, 31999] h954 h954 := gSs.rf g955.1
    have rf958 := Nat.lt_of_lt_of_eq rw909.2.1 nh954.symm
    have rf959 := zh954.trans rf911
    have dd960 : ∀ k, ¬ k ∈ ([35, 34, 33, 32, 31, 30, 29, 28, 27, 26, 25, 15, 14, 13, 12, 11, 10, 9, 4, 2] : List Nat) → h954.2.2.2.2 x k = defaultValue (gGG.2.1 12 k) := raw_dp fh954 dd912
    have s961 := (fh954 2 (by decide)).trans s933
    have s962 := (fh954 4 (by decide)).trans s934
    have s963 := (fh954 9 (by decide)).trans s935
    have s964 := (fh954 10 (by decide)).trans s936
    have s965 := (fh954 11 (by decide)).trans s937
    have s966 := (fh954 12 (by decide)).trans s938
    have s967 := (fh954 13 (by decide)).trans s939
    have s968 := (fh954 14 (by decide)).trans s940
    have s969 := (fh954 15 (by decide)).trans s941
    have s970 := (fh954 25 (by decide)).trans s942
    have s971 := (fh954 26 (by decide)).trans s943
    have s972 := (fh954 27 (by decide)).trans s944
    have s973 := (fh954 28 (by decide)).trans s945
    have s974 := (fh954 29 (by decide)).trans s946
    have s975 := (fh954 30 (by decide)).trans s947
    have s976 := (fh954 31 (by decide)).trans s948
    have s977 := (fh954 32 (by decide)).trans s949
    have s978 := (fh954 33 (by decide)).trans s950
    have s979 := (fh954 34 (by decide)).trans s951
    clear G908 dd912 rf910 rf911 rw909 s933 s934 s935 s936 s937 s938 s939 s940 s941 s942 s943 s944 s945 s946 s947 s948 s949 s950 s951 sS953
    refine gz_s 2 (pc' := 162) (L' := [some (.ref x), none, none, none, none]) (S' := [.int (zi 3), .ref x]) rfl ?_
    refine gs_newr 22 rfl (by decide) rfl sS957.1 (Nat.le_of_lt (Nat.lt_of_le_of_lt (gJ.cell sS957.1 t914 rfl).1 (gJ.cell sS957.1 t914 rfl).2.1)) (by omega) (by omega) rfl rfl (by show (3 : Int) ≤ _; omega) (by show _ ≤ (3 : Int); omega) (fun _ _ => gos_i (by decide) (by decide)) (fun ty980 h981 c982 g983 tc982 lc982 nc982 mc982 ec982 dc982 uc982 => ?_)
    have gac982 : h.1 ≤ c982 := by have h8 := G956.2.1; have h9 := sS957.2.1; omega
    have uq984 := uc982 uq907 (Or.inr (gNo.sub (by decide +kernel) pr952))
    have G985 : gSg [1, 2, 3, 4, 5, 6, 7, 8, 9, 10, 11, 12, 13, 14, 15, 16, 17, 18, 19, 20, 21, 22, 23, 24, 25, 26, 27, 28, 29, 30, 31, 32, 33, 34, 35, 36, 37, 38, 39, 40, 41, 42, 200] [x] [8999, 10999, 31999] ty h ty980 h981 := gSg.tr (gSg.ss G956 sS957 (by decide)) g983 (by decide) (by decide) (fun x hx => by cases hx)
    have rw986 := gSg.raw g983 rf958 (fun w => by cases w)
    have rf987 := (rw986.2.2.1.trans kh954)
    have rf988 := (rw986.2.2.2.trans rf959)
    have dd989 := gSg.rawd (ci := 12) (ps := [35, 34, 33, 32, 31, 30, 29, 28, 27, 26, 25, 15, 14, 13, 12, 11, 10, 9, 4, 2]) g983 rf958 (fun w => by cases w) t913 (by decide) dd960
    have t990 : ty980 x = 200 := rw986.1.trans t913
    have t991 : ty980 c3 = 2 := gSg.typ g983 sS957.1 t914 rTk_2
    have t992 : ty980 c23 = 3 := gSg.typ g983 sS957.1 t915 rTk_3
    have t993 : ty980 c46 = 4 := gSg.typ g983 sS957.1 t916 rTk_4
    have t994 : ty980 c72 = 5 := gSg.typ g983 sS957.1 t917 rTk_5
    have t995 : ty980 c101 = 6 := gSg.typ g983 sS957.1 t918 rTk_6
    have t996 : ty980 c133 = 7 := gSg.typ g983 sS957.1 t919 rTk_7
    have t997 : ty980 c171 = 8 := gSg.typ g983 sS957.1 t920 rTk_8
    have t998 : ty980 c209 = 9 := gSg.typ g983 sS957.1 t921 rTk_9
    have t999 : ty980 c250 = 10 := gSg.typ g983 sS957.1 t922 rTk_10
    have t1000 : ty980 c294 = 11 := gSg.typ g983 sS957.1 t923 rTk_11
    have t1001 : ty980 c341 = 12 := gSg.typ g983 sS957.1 t924 rTk_12
    have t1002 : ty980 c391 = 13 := gSg.typ g983 sS957.1 t925 rTk_13
    have t1003 : ty980 c447 = 14 := gSg.typ g983 sS957.1 t926 rTk_14
    have t1004 : ty980 c503 = 15 := gSg.typ g983 sS957.1 t927 rTk_15
    have t1005 : ty980 c562 = 16 := gSg.typ g983 sS957.1 t928 rTk_16
    have t1006 : ty980 c624 = 17 := gSg.typ g983 sS957.1 t929 rTk_17
    have t1007 : ty980 c689 = 18 := gSg.typ g983 sS957.1 t930 rTk_18
    have t1008 : ty980 c760 = 19 := gSg.typ g983 sS957.1 t931 rTk_19
    have t1009 : ty980 c831 = 20 := gSg.typ g983 sS957.1 t932 rTk_20
    have t1010 : ty980 c905 = 21 := gSg.typ g983 sS957.1 tc905 rTk_21
    have s1011 := gSg.rawat g983 rf958 (fun w => by cases w) t913 (by decide) s961
    have s1012 := gSg.rawat g983 rf958 (fun w => by cases w) t913 (by decide) s962
    have s1013 := gSg.rawat g983 rf958 (fun w => by cases w) t913 (by decide) s963
    have s1014 := gSg.rawat g983 rf958 (fun w => by cases w) t913 (by decide) s964
    have s1015 := gSg.rawat g983 rf958 (fun w => by cases w) t913 (by decide) s965
    have s1016 := gSg.rawat g983 rf958 (fun w => by cases w) t913 (by decide) s966
    have s1017 := gSg.rawat g983 rf958 (fun w => by cases w) t913 (by decide) s967
    have s1018 := gSg.rawat g983 rf958 (fun w => by cases w) t913 (by decide) s968
    have s1019 := gSg.rawat g983 rf958 (fun w => by cases w) t913 (by decide) s969
    have s1020 := gSg.rawat g983 rf958 (fun w => by cases w) t913 (by decide) s970
    have s1021 := gSg.rawat g983 rf958 (fun w => by cases w) t913 (by decide) s971
    have s1022 := gSg.rawat g983 rf958 (fun w => by cases w) t913 (by decide) s972
    have s1023 := gSg.rawat g983 rf958 (fun w => by cases w) t913 (by decide) s973
    have s1024 := gSg.rawat g983 rf958 (fun w => by cases w) t913 (by decide) s974
    have s1025 := gSg.rawat g983 rf958 (fun w => by cases w) t913 (by decide) s975
    have s1026 := gSg.rawat g983 rf958 (fun w => by cases w) t913 (by decide) s976
    have s1027 := gSg.rawat g983 rf958 (fun w => by cases w) t913 (by decide) s977
    have s1028 := gSg.rawat g983 rf958 (fun w => by cases w) t913 (by decide) s978
    have s1029 := gSg.rawat g983 rf958 (fun w => by cases w) t913 (by decide) s979
    have s1030 := gSg.rawat g983 rf958 (fun w => by cases w) t913 (by decide) eh954
    have pr1031 : gNo [1, 23, 24, 25, 26, 27, 28, 29, 30, 31, 32, 33, 34, 35, 36, 37, 38, 39, 40, 41, 42] ty980 := gNo.gr g983 (by decide +kernel) (gNo.sub (by decide +kernel) pr952)
    have sS1032 : gSs rT 1027 ty980 [8999, 10999, 31999] h981 h981 := gSs.rf g983.1
    clear G956 dd960 pr952 rf958 rf959 s961 s962 s963 s964 s965 s966 s967 s968 s969 s970 s971 s972 s973 s974 s975 s976 s977 s978 s979 sS957 t913 t914 t915 t916 t917 t918 t919 t920 t921 t922 t923 t924 t925 t926 t927 t928 t929 t930 t931 t932 uq907
    refine gs_rput rfl (by decide) rfl sS1032.1 t990 nx rw986.2.1 rf987 rfl (Or.inr rfl) (fun h1033 g1034 nh1033 mh1033 kh1033 zh1033 eh1033 fh1033 => ?_)
    have G1035 : gSg [1, 2, 3, 4, 5, 6, 7, 8, 9, 10, 11, 12, 13, 14, 15, 16, 17, 18, 19, 20, 21, 22, 23, 24, 25, 26, 27, 28, 29, 30, 31, 32, 33, 34, 35, 36, 37, 38, 39, 40, 41, 42, 200] [x] [8999, 10999, 31999] ty h ty980 h1033 := gSg.tr (gSg.ss G985 sS1032 (by decide)) g1034 (by decide) (by decide) (fun x hx => Or.inr hx)
    have sS1036 : gSs rT 1027 ty980 [8999, 10999, 31999] h1033 h1033 := gSs.rf g1034.1
    have rf1037 := Nat.lt_of_lt_of_eq rw986.2.1 nh1033.symm
    have rf1038 := zh1033.trans rf988
    have dd1039 : ∀ k, ¬ k ∈ ([36, 35, 34, 33, 32, 31, 30, 29, 28, 27, 26, 25, 15, 14, 13, 12, 11, 10, 9, 4, 2] : List Nat) → h1033.2.2.2.2 x k = defaultValue (gGG.2.1 12 k) := raw_dp fh1033 dd989
    have s1040 := (fh1033 2 (by decide)).trans s1011
    have s1041 := (fh1033 4 (by decide)).trans s1012
    have s1042 := (fh1033 9 (by decide)).trans s1013
    have s1043 := (fh1033 10 (by decide)).trans s1014
    have s1044 := (fh1033 11 (by decide)).trans s1015
    have s1045 := (fh1033 12 (by decide)).trans s1016
    have s1046 := (fh1033 13 (by decide)).trans s1017
    have s1047 := (fh1033 14 (by decide)).trans s1018
    have s1048 := (fh1033 15 (by decide)).trans s1019
    have s1049 := (fh1033 25 (by decide)).trans s1020
    have s1050 := (fh1033 26 (by decide)).trans s1021
    have s1051 := (fh1033 27 (by decide)).trans s1022
    have s1052 := (fh1033 28 (by decide)).trans s1023
    have s1053 := (fh1033 29 (by decide)).trans s1024
    have s1054 := (fh1033 30 (by decide)).trans s1025
    have s1055 := (fh1033 31 (by decide)).trans s1026
    have s1056 := (fh1033 32 (by decide)).trans s1027
    have s1057 := (fh1033 33 (by decide)).trans s1028
    have s1058 := (fh1033 34 (by decide)).trans s1029
    have s1059 := (fh1033 35 (by decide)).trans s1030
    clear G985 dd989 rf987 rf988 rw986 s1011 s1012 s1013 s1014 s1015 s1016 s1017 s1018 s1019 s1020 s1021 s1022 s1023 s1024 s1025 s1026 s1027 s1028 s1029 s1030 sS1032
    have lp1060 := cmlp1060 d hJ x nx c3 c23 c46 c72 c101 c133 c171 c209 c250 c294 c341 c391 c447 c503 c562 c624 c689 c760 c831 c905 c982
    have G3574 : gSg [1, 2, 3, 4, 5, 6, 7, 8, 9, 10, 11, 12, 13, 14, 15, 16, 17, 18, 19, 20, 21, 22, 23, 24, 25, 26, 27, 28, 29, 30, 31, 32, 33, 34, 35, 36, 37, 38, 39, 40, 41, 42, 200] [x] [8999, 10999, 31999] ty h ty980 h1033 := gSg.ss G1035 sS1036 (by decide)
    exact gz_wk (lp1060 _ ty980 h1033  (Nat.lt_succ_self _) G3574 uq984 t990 t991 t992 t993 t994 t995 t996 t997 t998 t999 t1000 t1001 t1002 t1003 t1004 t1005 t1006 t1007 t1008 t1009 t1010 tc982 (by omega) (by omega) s1040 s1041 s1042 s1043 s1044 s1045 s1046 s1047 s1048 s1049 s1050 s1051 s1052 s1053 s1054 s1055 s1056 s1057 s1058 s1059 eh1033 pr1031 rf1037 kh1033 rf1038 dd1039) (gLw.s (gLw.n (gLw.n (gLw.n (gLw.n gLw.z)))))
set_option maxRecDepth 20000 in
set_option maxHeartbeats 4000000 in
theorem cmlp442 (d : Nat) {ty : Nat → Nat} {h : gH} (hJ : gJ rT 1027 ty h) (x : Nat) (nx : 1027 ≤ x) (c3 c23 c46 c72 c101 c133 c171 c209 c250 c294 c341 c391 : Nat) : ∀ (fu : Nat) (ty444 : Nat → Nat) (h443 : gH), ((1 : Int)).toNat < fu → gSg [1, 2, 3, 4, 5, 6, 7, 8, 9, 10, 11, 12, 13, 14, 15, 16, 17, 18, 19, 20, 21, 22, 23, 24, 25, 26, 27, 28, 29, 30, 31, 32, 33, 34, 35, 36, 37, 38, 39, 40, 41, 42, 200] [x] [8999, 10999, 31999] ty h ty444 h443 → gUq ty444 → ty444 x = 200 → ty444 c3 = 2 → ty444 c23 = 3 → ty444 c46 = 4 → ty444 c72 = 5 → ty444 c101 = 6 → ty444 c133 = 7 → ty444 c171 = 8 → ty444 c209 = 9 → ty444 c250 = 10 → ty444 c294 = 11 → ty444 c341 = 12 → ty444 c391 = 13 → ((h443.1 : Int) = h.1 + 12) → ((h443.2.1 : Int) = h.2.1 + 10761) → h443.2.2.2.2 x 2 = .ref c3 → h443.2.2.2.2 x 4 = .ref c23 → h443.2.2.2.2 x 9 = .ref c46 → h443.2.2.2.2 x 10 = .ref c72 → h443.2.2.2.2 x 11 = .ref c101 → h443.2.2.2.2 x 12 = .ref c133 → h443.2.2.2.2 x 13 = .ref c171 → h443.2.2.2.2 x 14 = .ref c209 → h443.2.2.2.2 x 15 = .ref c250 → h443.2.2.2.2 x 25 = .ref c294 → h443.2.2.2.2 x 26 = .ref c341 → h443.2.2.2.2 x 27 = .ref c391 → gNo [1, 14, 15, 16, 17, 18, 19, 20, 21, 22, 23, 24, 25, 26, 27, 28, 29, 30, 31, 32, 33, 34, 35, 36, 37, 38, 39, 40, 41, 42] ty444 → x < h443.1 → h443.2.2.1 x = some (.inr 12) → h443.2.2.2.1 x = 0 → (∀ k, ¬ k ∈ ([27, 26, 25, 15, 14, 13, 12, 11, 10, 9, 4, 2] : List Nat) → h443.2.2.2.2 x k = defaultValue (gGG.2.1 12 k)) → gz gPP gGG gcn (d + 1) gt130 104 [some (.ref x), none, none, none, none] [] h443 (fun q _ => ∃ ty9 : Nat → Nat, gSg [1, 2, 3, 4, 5, 6, 7, 8, 9, 10, 11, 12, 13, 14, 15, 16, 17, 18, 19, 20, 21, 22, 23, 24, 25, 26, 27, 28, 29, 30, 31, 32, 33, 34, 35, 36, 37, 38, 39, 40, 41, 42, 200] [x] [8999, 10999, 31999] ty h ty9 q.2.2 ∧ ∃ ip n1 cw ch iv1 : Int, ty9 x = 1 ∧ gfin gt130 q.1 q.2.1 = some none ∧ q.2.2.2.2.2.2 x 16 = .int (zi ip) ∧ 0 ≤ ip ∧ ip ≤ 1 ∧ q.2.2.2.2.2.2 x 53 = .int (zi n1) ∧ 0 ≤ n1 ∧ n1 ≤ 10 ∧ q.2.2.2.2.2.2 x 50 = .int (zi cw) ∧ 0 ≤ cw ∧ cw ≤ 32 ∧ q.2.2.2.2.2.2 x 51 = .int (zi ch) ∧ 0 ≤ ch ∧ ch ≤ 32 ∧ q.2.2.2.2.2.2 x 52 = .int (zi iv1) ∧ 0 ≤ iv1 ∧ iv1 ≤ 100 ∧ (ip = 0) ∧ (n1 = 0) ∧ (cw = 0) ∧ (ch = 0) ∧ (iv1 = 0) ∧ ((q.2.2.1 : Int) = h.1 + 41) ∧ ((q.2.2.2.1 : Int) = h.2.1 + 88652) ∧ (gTs ty9 0 q.2.2) ∧ (gOy ty9 31 (-1) 64 q.2.2) ∧ gUq ty9) := by
  intro fu
  induction fu with
  | zero => intro ty444 h443  hm; exact absurd hm (Nat.not_lt_zero _)
  | succ fu ihlp442 =>
    intro ty444 h443  lp442m lp442G lp442u lp442c0 lp442c1 lp442c2 lp442c3 lp442c4 lp442c5 lp442c6 lp442c7 lp442c8 lp442c9 lp442c10 lp442c11 lp442c12 lp442f0 lp442f1 lp442k0 lp442k1 lp442k2 lp442k3 lp442k4 lp442k5 lp442k6 lp442k7 lp442k8 lp442k9 lp442k10 lp442k11 lp442k12 lp442w0 lp442w1 lp442w2 lp442w3
    have sh443 : gSs rT 1027 ty444 [8999, 10999, 31999] h443 h443 := gSs.rf lp442G.1
    refine gz_s 2 (pc' := 106) (L' := [some (.ref x), none, none, none, none]) (S' := [.int (zi 3), .ref x]) rfl ?_
    refine gs_newr 14 rfl (by decide) rfl sh443.1 (Nat.le_of_lt (Nat.lt_of_le_of_lt (gJ.cell sh443.1 lp442c1 rfl).1 (gJ.cell sh443.1 lp442c1 rfl).2.1)) (by omega) (by omega) rfl rfl (by show (3 : Int) ≤ _; omega) (by show _ ≤ (3 : Int); omega) (fun _ _ => gos_i (by decide) (by decide)) (fun ty445 h446 c447 g448 tc447 lc447 nc447 mc447 ec447 dc447 uc447 => ?_)
    have gac447 : h.1 ≤ c447 := by have h8 := lp442G.2.1; have h9 := sh443.2.1; omega
    have uq449 := uc447 lp442u (Or.inr (gNo.sub (by decide +kernel) lp442k12))
    have G450 : gSg [1, 2, 3, 4, 5, 6, 7, 8, 9, 10, 11, 12, 13, 14, 15, 16, 17, 18, 19, 20, 21, 22, 23, 24, 25, 26, 27, 28, 29, 30, 31, 32, 33, 34, 35, 36, 37, 38, 39, 40, 41, 42, 200] [x] [8999, 10999, 31999] ty h ty445 h446 := gSg.tr (gSg.ss lp442G sh443 (by decide)) g448 (by decide) (by decide) (fun x hx => by cases hx)
    have rw451 := gSg.raw g448 lp442w0 (fun w => by cases w)
    have rf452 := (rw451.2.2.1.trans lp442w1)
    have rf453 := (rw451.2.2.2.trans lp442w2)
    have dd454 := gSg.rawd (ci := 12) (ps := [27, 26, 25, 15, 14, 13, 12, 11, 10, 9, 4, 2]) g448 lp442w0 (fun w => by cases w) lp442c0 (by decide) lp442w3
    have t455 : ty445 x = 200 := rw451.1.trans lp442c0
    have t456 : ty445 c3 = 2 := gSg.typ g448 sh443.1 lp442c1 rTk_2
    have t457 : ty445 c23 = 3 := gSg.typ g448 sh443.1 lp442c2 rTk_3
    have t458 : ty445 c46 = 4 := gSg.typ g448 sh443.1 lp442c3 rTk_4
    have t459 : ty445 c72 = 5 := gSg.typ g448 sh443.1 lp442c4 rTk_5
    have t460 : ty445 c101 = 6 := gSg.typ g448 sh443.1 lp442c5 rTk_6
    have t461 : ty445 c133 = 7 := gSg.typ g448 sh443.1 lp442c6 rTk_7
    have t462 : ty445 c171 = 8 := gSg.typ g448 sh443.1 lp442c7 rTk_8
    have t463 : ty445 c209 = 9 := gSg.typ g448 sh443.1 lp442c8 rTk_9
    have t464 : ty445 c250 = 10 := gSg.typ g448 sh443.1 lp442c9 rTk_10
    have t465 : ty445 c294 = 11 := gSg.typ g448 sh443.1 lp442c10 rTk_11
    have t466 : ty445 c341 = 12 := gSg.typ g448 sh443.1 lp442c11 rTk_12
    have t467 : ty445 c391 = 13 := gSg.typ g448 sh443.1 lp442c12 rTk_13
    have s468 := gSg.rawat g448 lp442w0 (fun w => by cases w) lp442c0 (by decide) lp442k0
    have s469 := gSg.rawat g448 lp442w0 (fun w => by cases w) lp442c0 (by decide) lp442k1
    have s470 := gSg.rawat g448 lp442w0 (fun w => by cases w) lp442c0 (by decide) lp442k2
    have s471 := gSg.rawat g448 lp442w0 (fun w => by cases w) lp442c0 (by decide) lp442k3
    have s472 := gSg.rawat g448 lp442w0 (fun w => by cases w) lp442c0 (by decide) lp442k4
    have s473 := gSg.rawat g448 lp442w0 (fun w => by cases w) lp442c0 (by decide) lp442k5
    have s474 := gSg.rawat g448 lp442w0 (fun w => by cases w) lp442c0 (by decide) lp442k6
    have s475 := gSg.rawat g448 lp442w0 (fun w => by cases w) lp442c0 (by decide) lp442k7
    have s476 := gSg.rawat g448 lp442w0 (fun w => by cases w) lp442c0 (by decide) lp442k8
    have s477 := gSg.rawat g448 lp442w0 (fun w => by cases w) lp442c0 (by decide) lp442k9
    have s478 := gSg.rawat g448 lp442w0 (fun w => by cases w) lp442c0 (by decide) lp442k10
    have s479 := gSg.rawat g448 lp442w0 (fun w => by cases w) lp442c0 (by decide) lp442k11
    have pr480 : gNo [1, 15, 16, 17, 18, 19, 20, 21, 22, 23, 24, 25, 26, 27, 28, 29, 30, 31, 32, 33, 34, 35, 36, 37, 38, 39, 40, 41, 42] ty445 := gNo.gr g448 (by decide +kernel) (gNo.sub (by decide +kernel) lp442k12)
    have sS481 : gSs rT 1027 ty445 [8999, 10999, 31999] h446 h446 := gSs.rf g448.1
    refine gs_rput rfl (by decide) rfl sS481.1 t455 nx rw451.2.1 rf452 rfl (Or.inr rfl) (fun h482 g483 nh482 mh482 kh482 zh482 eh482 fh482 => ?_)
    have G484 : gSg [1, 2, 3, 4, 5, 6, 7, 8, 9, 10, 11, 12, 13, 14, 15, 16, 17, 18, 19, 20, 21, 22, 23, 24, 25, 26, 27, 28, 29, 30, 31, 32, 33, 34, 35, 36, 37, 38, 39, 40, 41, 42, 200] [x] [8999, 10999, 31999] ty h ty445 h482 := gSg.tr (gSg.ss G450 sS481 (by decide)) g483 (by decide) (by decide) (fun x hx => Or.inr hx)
    have sS485 : gSs rT 1027 ty445 [8999, 10999, 31999] h482 h482 := gSs.rf g483.1
    have rf486 := Nat.lt_of_lt_of_eq rw451.2.1 nh482.symm
    have rf487 := zh482.trans rf453
    have dd488 : ∀ k, ¬ k ∈ ([28, 27, 26, 25, 15, 14, 13, 12, 11, 10, 9, 4, 2] : List Nat) → h482.2.2.2.2 x k = defaultValue (gGG.2.1 12 k) := raw_dp fh482 dd454
    have s489 := (fh482 2 (by decide)).trans s468
    have s490 := (fh482 4 (by decide)).trans s469
    have s491 := (fh482 9 (by decide)).trans s470
    have s492 := (fh482 10 (by decide)).trans s471
    have s493 := (fh482 11 (by decide)).trans s472
    have s494 := (fh482 12 (by decide)).trans s473
    have s495 := (fh482 13 (by decide)).trans s474
    have s496 := (fh482 14 (by decide)).trans s475
    have s497 := (fh482 15 (by decide)).trans s476
    have s498 := (fh482 25 (by decide)).trans s477
    have s499 := (fh482 26 (by decide)).trans s478
    have s500 := (fh482 27 (by decide)).trans s479
    clear G450 dd454 rf452 rf453 rw451 s468 s469 s470 s471 s472 s473 s474 s475 s476 s477 s478 s479 sS481
    refine gz_s 2 (pc' := 113) (L' := [some (.ref x), none, none, none, none]) (S' := [.int (zi 3), .ref x]) rfl ?_
    refine gs_newr 15 rfl (by decide) rfl sS485.1 (Nat.le_of_lt (Nat.lt_of_le_of_lt (gJ.cell sS485.1 t456 rfl).1 (gJ.cell sS485.1 t456 rfl).2.1)) (by omega) (by omega) rfl rfl (by show (3 : Int) ≤ _; omega) (by show _ ≤ (3 : Int); omega) (fun _ _ => gos_i (by decide) (by decide)) (fun ty501 h502 c503 g504 tc503 lc503 nc503 mc503 ec503 dc503 uc503 => ?_)
    have gac503 : h.1 ≤ c503 := by have h8 := G484.2.1; have h9 := sS485.2.1; omega
    have uq505 := uc503 uq449 (Or.inr (gNo.sub (by decide +kernel) pr480))
    have G506 : gSg [1, 2, 3, 4, 5, 6, 7, 8, 9, 10, 11, 12, 13, 14, 15, 16, 17, 18, 19, 20, 21, 22, 23, 24, 25, 26, 27, 28, 29, 30, 31, 32, 33, 34, 35, 36, 37, 38, 39, 40, 41, 42, 200] [x] [8999, 10999, 31999] ty h ty501 h502 := gSg.tr (gSg.ss G484 sS485 (by decide)) g504 (by decide) (by decide) (fun x hx => by cases hx)
    have rw507 := gSg.raw g504 rf486 (fun w => by cases w)
    have rf508 := (rw507.2.2.1.trans kh482)
    have rf509 := (rw507.2.2.2.trans rf487)
    have dd510 := gSg.rawd (ci := 12) (ps := [28, 27, 26, 25, 15, 14, 13, 12, 11, 10, 9, 4, 2]) g504 rf486 (fun w => by cases w) t455 (by decide) dd488
    have t511 : ty501 x = 200 := rw507.1.trans t455
    have t512 : ty501 c3 = 2 := gSg.typ g504 sS485.1 t456 rTk_2
    have t513 : ty501 c23 = 3 := gSg.typ g504 sS485.1 t457 rTk_3
    have t514 : ty501 c46 = 4 := gSg.typ g504 sS485.1 t458 rTk_4
    have t515 : ty501 c72 = 5 := gSg.typ g504 sS485.1 t459 rTk_5
    have t516 : ty501 c101 = 6 := gSg.typ g504 sS485.1 t460 rTk_6
    have t517 : ty501 c133 = 7 := gSg.typ g504 sS485.1 t461 rTk_7
    have t518 : ty501 c171 = 8 := gSg.typ g504 sS485.1 t462 rTk_8
    have t519 : ty501 c209 = 9 := gSg.typ g504 sS485.1 t463 rTk_9
    have t520 : ty501 c250 = 10 := gSg.typ g504 sS485.1 t464 rTk_10
    have t521 : ty501 c294 = 11 := gSg.typ g504 sS485.1 t465 rTk_11
    have t522 : ty501 c341 = 12 := gSg.typ g504 sS485.1 t466 rTk_12
    have t523 : ty501 c391 = 13 := gSg.typ g504 sS485.1 t467 rTk_13
    have t524 : ty501 c447 = 14 := gSg.typ g504 sS485.1 tc447 rTk_14
    have s525 := gSg.rawat g504 rf486 (fun w => by cases w) t455 (by decide) s489
    have s526 := gSg.rawat g504 rf486 (fun w => by cases w) t455 (by decide) s490
    have s527 := gSg.rawat g504 rf486 (fun w => by cases w) t455 (by decide) s491
    have s528 := gSg.rawat g504 rf486 (fun w => by cases w) t455 (by decide) s492
    have s529 := gSg.rawat g504 rf486 (fun w => by cases w) t455 (by decide) s493
    have s530 := gSg.rawat g504 rf486 (fun w => by cases w) t455 (by decide) s494
    have s531 := gSg.rawat g504 rf486 (fun w => by cases w) t455 (by decide) s495
    have s532 := gSg.rawat g504 rf486 (fun w => by cases w) t455 (by decide) s496
    have s533 := gSg.rawat g504 rf486 (fun w => by cases w) t455 (by decide) s497
    have s534 := gSg.rawat g504 rf486 (fun w => by cases w) t455 (by decide) s498
    have s535 := gSg.rawat g504 rf486 (fun w => by cases w) t455 (by decide) s499
    have s536 := gSg.rawat g504 rf486 (fun w => by cases w) t455 (by decide) s500
    have s537 := gSg.rawat g504 rf486 (fun w => by cases w) t455 (by decide) eh482
    have pr538 : gNo [1, 16, 17, 18, 19, 20, 21, 22, 23, 24, 25, 26, 27, 28, 29, 30, 31, 32, 33, 34, 35, 36, 37, 38, 39, 40, 41, 42] ty501 := gNo.gr g504 (by decide +kernel) (gNo.sub (by decide +kernel) pr480)
    have sS539 : gSs rT 1027 ty501 [8999, 10999, 31999] h502 h502 := gSs.rf g504.1
    clear G484 dd488 pr480 rf486 rf487 s489 s490 s491 s492 s493 s494 s495 s496 s497 s498 s499 s500 sS485 t455 t456 t457 t458 t459 t460 t461 t462 t463 t464 t465 t466 t467 uq449
    refine gs_rput rfl (by decide) rfl sS539.1 t511 nx rw507.2.1 rf508 rfl (Or.inr rfl) (fun h540 g541 nh540 mh540 kh540 zh540 eh540 fh540 => ?_)
    have G542 : gSg [1, 2, 3, 4, 5, 6, 7, 8, 9, 10, 11, 12, 13, 14, 15, 16, 17, 18, 19, 20, 21, 22, 23, 24, 25, 26, 27, 28, 29, 30, 31, 32, 33, 34, 35, 36, 37, 38, 39, 40, 41, 42, 200] [x] [8999, 10999, 31999] ty h ty501 h540 := gSg.tr (gSg.ss G506 sS539 (by decide)) g541 (by decide) (by decide) (fun x hx => Or.inr hx)
    have sS543 : gSs rT 1027 ty501 [8999, 10999, 31999] h540 h540 := gSs.rf g541.1
    have rf544 := Nat.lt_of_lt_of_eq rw507.2.1 nh540.symm
    have rf545 := zh540.trans rf509
    have dd546 : ∀ k, ¬ k ∈ ([29, 28, 27, 26, 25, 15, 14, 13, 12, 11, 10, 9, 4, 2] : List Nat) → h540.2.2.2.2 x k = defaultValue (gGG.2.1 12 k) := raw_dp fh540 dd510
    have s547 := (fh540 2 (by decide)).trans s525
    have s548 := (fh540 4 (by decide)).trans s526
    have s549 := (fh540 9 (by decide)).trans s527
    have s550 := (fh540 10 (by decide)).trans s528
    have s551 := (fh540 11 (by decide)).trans s529
    have s552 := (fh540 12 (by decide)).trans s530
    have s553 := (fh540 13 (by decide)).trans s531
    have s554 := (fh540 14 (by decide)).trans s532
    have s555 := (fh540 15 (by decide)).trans s533
    have s556 := (fh540 25 (by decide)).trans s534
    have s557 := (fh540 26 (by decide)).trans s535
    have s558 := (fh540 27 (by decide)).trans s536
    have s559 := (fh540 28 (by decide)).trans s537
    clear G506 dd510 rf508 rf509 rw507 s525 s526 s527 s528 s529 s530 s531 s532 s533 s534 s535 s536 s537 sS539
    refine gz_s 2 (pc' := 120) (L' := [some (.ref x), none, none, none, none]) (S' := [.int (zi 3), .ref x]) rfl ?_
    refine gs_newr 16 rfl (by decide) rfl sS543.1 (Nat.le_of_lt (Nat.lt_of_le_of_lt (gJ.cell sS543.1 t512 rfl).1 (gJ.cell sS543.1 t512 rfl).2.1)) (by omega) (by omega) rfl rfl (by show (3 : Int) ≤ _; omega) (by show _ ≤ (3 : Int); omega) (fun _ _ => gos_i (by decide) (by decide)) (fun ty560 h561 c562 g563 tc562 lc562 nc562 mc562 ec562 dc562 uc562 => ?_)
    have gac562 : h.1 ≤ c562 := by have h8 := G542.2.1; have h9 := sS543.2.1; omega
    have uq564 := uc562 uq505 (Or.inr (gNo.sub (by decide +kernel) pr538))
    have G565 : gSg [1, 2, 3, 4, 5, 6, 7, 8, 9, 10, 11, 12, 13, 14, 15, 16, 17, 18, 19, 20, 21, 22, 23, 24, 25, 26, 27, 28, 29, 30, 31, 32, 33, 34, 35, 36, 37, 38, 39, 40, 41, 42, 200] [x] [8999, 10999, 31999] ty h ty560 h561 := gSg.tr (gSg.ss G542 sS543 (by decide)) g563 (by decide) (by decide) (fun x hx => by cases hx)
    have rw566 := gSg.raw g563 rf544 (fun w => by cases w)
    have rf567 := (rw566.2.2.1.trans kh540)
    have rf568 := (rw566.2.2.2.trans rf545)
    have dd569 := gSg.rawd (ci := 12) (ps := [29, 28, 27, 26, 25, 15, 14, 13, 12, 11, 10, 9, 4, 2]) g563 rf544 (fun w => by cases w) t511 (by decide) dd546
    have t570 : ty560 x = 200 := rw566.1.trans t511
    have t571 : ty560 c3 = 2 := gSg.typ g563 sS543.1 t512 rTk_2
    have t572 : ty560 c23 = 3 := gSg.typ g563 sS543.1 t513 rTk_3
    have t573 : ty560 c46 = 4 := gSg.typ g563 sS543.1 t514 rTk_4
    have t574 : ty560 c72 = 5 := gSg.typ g563 sS543.1 t515 rTk_5
    have t575 : ty560 c101 = 6 := gSg.typ g563 sS543.1 t516 rTk_6
    have t576 : ty560 c133 = 7 := gSg.typ g563 sS543.1 t517 rTk_7
    have t577 : ty560 c171 = 8 := gSg.typ g563 sS543.1 t518 rTk_8
    have t578 : ty560 c209 = 9 := gSg.typ g563 sS543.1 t519 rTk_9
    have t579 : ty560 c250 = 10 := gSg.typ g563 sS543.1 t520 rTk_10
    have t580 : ty560 c294 = 11 := gSg.typ g563 sS543.1 t521 rTk_11
    have t581 : ty560 c341 = 12 := gSg.typ g563 sS543.1 t522 rTk_12
    have t582 : ty560 c391 = 13 := gSg.typ g563 sS543.1 t523 rTk_13
    have t583 : ty560 c447 = 14 := gSg.typ g563 sS543.1 t524 rTk_14
    have t584 : ty560 c503 = 15 := gSg.typ g563 sS543.1 tc503 rTk_15
    have s585 := gSg.rawat g563 rf544 (fun w => by cases w) t511 (by decide) s547
    have s586 := gSg.rawat g563 rf544 (fun w => by cases w) t511 (by decide) s548
    have s587 := gSg.rawat g563 rf544 (fun w => by cases w) t511 (by decide) s549
    have s588 := gSg.rawat g563 rf544 (fun w => by cases w) t511 (by decide) s550
    have s589 := gSg.rawat g563 rf544 (fun w => by cases w) t511 (by decide) s551
    have s590 := gSg.rawat g563 rf544 (fun w => by cases w) t511 (by decide) s552
    have s591 := gSg.rawat g563 rf544 (fun w => by cases w) t511 (by decide) s553
    have s592 := gSg.rawat g563 rf544 (fun w => by cases w) t511 (by decide) s554
    have s593 := gSg.rawat g563 rf544 (fun w => by cases w) t511 (by decide) s555
    have s594 := gSg.rawat g563 rf544 (fun w => by cases w) t511 (by decide) s556
    have s595 := gSg.rawat g563 rf544 (fun w => by cases w) t511 (by decide) s557
    have s596 := gSg.rawat g563 rf544 (fun w => by cases w) t511 (by decide) s558
    have s597 := gSg.rawat g563 rf544 (fun w => by cases w) t511 (by decide) s559
    have s598 := gSg.rawat g563 rf544 (fun w => by cases w) t511 (by decide) eh540
    have pr599 : gNo [1, 17, 18, 19, 20, 21, 22, 23, 24, 25, 26, 27, 28, 29, 30, 31, 32, 33, 34, 35, 36, 37, 38, 39, 40, 41, 42] ty560 := gNo.gr g563 (by decide +kernel) (gNo.sub (by decide +kernel) pr538)
    have sS600 : gSs rT 1027 ty560 [8999, 10999, 31999] h561 h561 := gSs.rf g563.1
    clear G542 dd546 pr538 rf544 rf545 s547 s548 s549 s550 s551 s552 s553 s554 s555 s556 s557 s558 s559 sS543 t511 t512 t513 t514 t515 t516 t517 t518 t519 t520 t521 t522 t523 t524 uq505
    refine gs_rput rfl (by decide) rfl sS600.1 t570 nx rw566.2.1 rf567 rfl (Or.inr rfl) (fun h601 g602 nh601 mh601 kh601 zh601 eh601 fh601 => ?_)
    have G603 : gSg [1, 2, 3, 4, 5, 6, 7, 8, 9, 10, 11, 12, 13, 14, 15, 16, 17, 18, 19, 20, 21, 22, 23, 24, 25, 26, 27, 28, 29, 30, 31, 32, 33, 34, 35, 36, 37, 38, 39, 40, 41, 42, 200] [x] [8999, 10999, 31999] ty h ty560 h601 := gSg.tr (gSg.ss G565 sS600 (by decide)) g602 (by decide) (by decide) (fun x hx => Or.inr hx)
    have sS604 : gSs rT 1027 ty560 [8999, 10999, 31999] h601 h601 := gSs.rf g602.1
    have rf605 := Nat.lt_of_lt_of_eq rw566.2.1 nh601.symm
    have rf606 := zh601.trans rf568
    have dd607 : ∀ k, ¬ k ∈ ([30, 29, 28, 27, 26, 25, 15, 14, 13, 12, 11, 10, 9, 4, 2] : List Nat) → h601.2.2.2.2 x k = defaultValue (gGG.2.1 12 k) := raw_dp fh601 dd569
    have s608 := (fh601 2 (by decide)).trans s585
    have s609 := (fh601 4 (by decide)).trans s586
    have s610 := (fh601 9 (by decide)).trans s587
    have s611 := (fh601 10 (by decide)).trans s588
    have s612 := (fh601 11 (by decide)).trans s589
    have s613 := (fh601 12 (by decide)).trans s590
    have s614 := (fh601 13 (by decide)).trans s591
    have s615 := (fh601 14 (by decide)).trans s592
    have s616 := (fh601 15 (by decide)).trans s593
    have s617 := (fh601 25 (by decide)).trans s594
    have s618 := (fh601 26 (by decide)).trans s595
    have s619 := (fh601 27 (by decide)).trans s596
    have s620 := (fh601 28 (by decide)).trans s597
    have s621 := (fh601 29 (by decide)).trans s598
    clear G565 dd569 rf567 rf568 rw566 s585 s586 s587 s588 s589 s590 s591 s592 s593 s594 s595 s596 s597 s598 sS600
    refine gz_s 2 (pc' := 127) (L' := [some (.ref x), none, none, none, none]) (S' := [.int (zi 3), .ref x]) rfl ?_
    refine gs_newr 17 rfl (by decide) rfl sS604.1 (Nat.le_of_lt (Nat.lt_of_le_of_lt (gJ.cell sS604.1 t571 rfl).1 (gJ.cell sS604.1 t571 rfl).2.1)) (by omega) (by omega) rfl rfl (by show (3 : Int) ≤ _; omega) (by show _ ≤ (3 : Int); omega) (fun _ _ => gos_i (by decide) (by decide)) (fun ty622 h623 c624 g625 tc624 lc624 nc624 mc624 ec624 dc624 uc624 => ?_)
    have gac624 : h.1 ≤ c624 := by have h8 := G603.2.1; have h9 := sS604.2.1; omega
    have uq626 := uc624 uq564 (Or.inr (gNo.sub (by decide +kernel) pr599))
    have G627 : gSg [1, 2, 3, 4, 5, 6, 7, 8, 9, 10, 11, 12, 13, 14, 15, 16, 17, 18, 19, 20, 21, 22, 23, 24, 25, 26, 27, 28, 29, 30, 31, 32, 33, 34, 35, 36, 37, 38, 39, 40, 41, 42, 200] [x] [8999, 10999, 31999] ty h ty622 h623 := gSg.tr (gSg.ss G603 sS604 (by decide)) g625 (by decide) (by decide) (fun x hx => by cases hx)
    have rw628 := gSg.raw g625 rf605 (fun w => by cases w)
    have rf629 := (rw628.2.2.1.trans kh601)
    have rf630 := (rw628.2.2.2.trans rf606)
    have dd631 := gSg.rawd (ci := 12) (ps := [30, 29, 28, 27, 26, 25, 15, 14, 13, 12, 11, 10, 9, 4, 2]) g625 rf605 (fun w => by cases w) t570 (by decide) dd607
    have t632 : ty622 x = 200 := rw628.1.trans t570
    have t633 : ty622 c3 = 2 := gSg.typ g625 sS604.1 t571 rTk_2
    have t634 : ty622 c23 = 3 := gSg.typ g625 sS604.1 t572 rTk_3
    have t635 : ty622 c46 = 4 := gSg.typ g625 sS604.1 t573 rTk_4
    have t636 : ty622 c72 = 5 := gSg.typ g625 sS604.1 t574 rTk_5
    have t637 : ty622 c101 = 6 := gSg.typ g625 sS604.1 t575 rTk_6
    have t638 : ty622 c133 = 7 := gSg.typ g625 sS604.1 t576 rTk_7
    have t639 : ty622 c171 = 8 := gSg.typ g625 sS604.1 t577 rTk_8
    have t640 : ty622 c209 = 9 := gSg.typ g625 sS604.1 t578 rTk_9
    have t641 : ty622 c250 = 10 := gSg.typ g625 sS604.1 t579 rTk_10
    have t642 : ty622 c294 = 11 := gSg.typ g625 sS604.1 t580 rTk_11
    have t643 : ty622 c341 = 12 := gSg.typ g625 sS604.1 t581 rTk_12
    have t644 : ty622 c391 = 13 := gSg.typ g625 sS604.1 t582 rTk_13
    have t645 : ty622 c447 = 14 := gSg.typ g625 sS604.1 t583 rTk_14
    have t646 : ty622 c503 = 15 := gSg.typ g625 sS604.1 t584 rTk_15
    have t647 : ty622 c562 = 16 := gSg.typ g625 sS604.1 tc562 rTk_16
    have s648 := gSg.rawat g625 rf605 (fun w => by cases w) t570 (by decide) s608
    have s649 := gSg.rawat g625 rf605 (fun w => by cases w) t570 (by decide) s609
    have s650 := gSg.rawat g625 rf605 (fun w => by cases w) t570 (by decide) s610
    have s651 := gSg.rawat g625 rf605 (fun w => by cases w) t570 (by decide) s611
    have s652 := gSg.rawat g625 rf605 (fun w => by cases w) t570 (by decide) s612
    have s653 := gSg.rawat g625 rf605 (fun w => by cases w) t570 (by decide) s613
    have s654 := gSg.rawat g625 rf605 (fun w => by cases w) t570 (by decide) s614
    have s655 := gSg.rawat g625 rf605 (fun w => by cases w) t570 (by decide) s615
    have s656 := gSg.rawat g625 rf605 (fun w => by cases w) t570 (by decide) s616
    have s657 := gSg.rawat g625 rf605 (fun w => by cases w) t570 (by decide) s617
    have s658 := gSg.rawat g625 rf605 (fun w => by cases w) t570 (by decide) s618
    have s659 := gSg.rawat g625 rf605 (fun w => by cases w) t570 (by decide) s619
    have s660 := gSg.rawat g625 rf605 (fun w => by cases w) t570 (by decide) s620
    have s661 := gSg.rawat g625 rf605 (fun w => by cases w) t570 (by decide) s621
    have s662 := gSg.rawat g625 rf605 (fun w => by cases w) t570 (by decide) eh601
    have pr663 : gNo [1, 18, 19, 20, 21, 22, 23, 24, 25, 26, 27, 28, 29, 30, 31, 32, 33, 34, 35, 36, 37, 38, 39, 40, 41, 42] ty622 := gNo.gr g625 (by decide +kernel) (gNo.sub (by decide +kernel) pr599)
    have sS664 : gSs rT 1027 ty622 [8999, 10999, 31999] h623 h623 := gSs.rf g625.1
    clear G603 dd607 pr599 rf605 rf606 s608 s609 s610 s611 s612 s613 s614 s615 s616 s617 s618 s619 s620 s621 sS604 t570 t571 t572 t573 t574 t575 t576 t577 t578 t579 t580 t581 t582 t583 t584 uq564
    refine gs_rput rfl (by decide) rfl sS664.1 t632 nx rw628.2.1 rf629 rfl (Or.inr rfl) (fun h665 g666 nh665 mh665 kh665 zh665 eh665 fh665 => ?_)
    have G667 : gSg [1, 2, 3, 4, 5, 6, 7, 8, 9, 10, 11, 12, 13, 14, 15, 16, 17, 18, 19, 20, 21, 22, 23, 24, 25, 26, 27, 28, 29, 30, 31, 32, 33, 34, 35, 36, 37, 38, 39, 40, 41, 42, 200] [x] [8999, 10999, 31999] ty h ty622 h665 := gSg.tr (gSg.ss G627 sS664 (by decide)) g666 (by decide) (by decide) (fun x hx => Or.inr hx)
    have sS668 : gSs rT 1027 ty622 [8999, 10999, 31999] h665 h665 := gSs.rf g666.1
    have rf669 := Nat.lt_of_lt_of_eq rw628.2.1 nh665.symm
    have rf670 := zh665.trans rf630
    have dd671 : ∀ k, ¬ k ∈ ([31, 30, 29, 28, 27, 26, 25, 15, 14, 13, 12, 11, 10, 9, 4, 2] : List Nat) → h665.2.2.2.2 x k = defaultValue (gGG.2.1 12 k) := raw_dp fh665 dd631
    have s672 := (fh665 2 (by decide)).trans s648
    have s673 := (fh665 4 (by decide)).trans s649
    have s674 := (fh665 9 (by decide)).trans s650
    have s675 := (fh665 10 (by decide)).trans s651
    have s676 := (fh665 11 (by decide)).trans s652
    have s677 := (fh665 12 (by decide)).trans s653
    have s678 := (fh665 13 (by decide)).trans s654
    have s679 := (fh665 14 (by decide)).trans s655
    have s680 := (fh665 15 (by decide)).trans s656
    have s681 := (fh665 25 (by decide)).trans s657
    have s682 := (fh665 26 (by decide)).trans s658
    have s683 := (fh665 27 (by decide)).trans s659
    have s684 := (fh665 28 (by decide)).trans s660
    have s685 := (fh665 29 (by decide)).trans s661
    have s686 := (fh665 30 (by decide)).trans s662
    clear G627 dd631 rf629 rf630 rw628 s648 s649 s650 s651 s652 s653 s654 s655 s656 s657 s658 s659 s660 s661 s662 sS664
    refine gz_s 2 (pc' := 134) (L' := [some (.ref x), none, none, none, none]) (S' := [.int (zi 3), .ref x]) rfl ?_
    refine gs_newr 18 rfl (by decide) rfl sS668.1 (Nat.le_of_lt (Nat.lt_of_le_of_lt (gJ.cell sS668.1 t633 rfl).1 (gJ.cell sS668.1 t633 rfl).2.1)) (by omega) (by omega) rfl rfl (by show (3 : Int) ≤ _; omega) (by show _ ≤ (3 : Int); omega) (fun _ _ => gos_i (by decide) (by decide)) (fun ty687 h688 c689 g690 tc689 lc689 nc689 mc689 ec689 dc689 uc689 => ?_)
    have gac689 : h.1 ≤ c689 := by have h8 := G667.2.1; have h9 := sS668.2.1; omega
    have uq691 := uc689 uq626 (Or.inr (gNo.sub (by decide +kernel) pr663))
    have G692 : gSg [1, 2, 3, 4, 5, 6, 7, 8, 9, 10, 11, 12, 13, 14, 15, 16, 17, 18, 19, 20, 21, 22, 23, 24, 25, 26, 27, 28, 29, 30, 31, 32, 33, 34, 35, 36, 37, 38, 39, 40, 41, 42, 200] [x] [8999, 10999, 31999] ty h ty687 h688 := gSg.tr (gSg.ss G667 sS668 (by decide)) g690 (by decide) (by decide) (fun x hx => by cases hx)
    have rw693 := gSg.raw g690 rf669 (fun w => by cases w)
    have rf694 := (rw693.2.2.1.trans kh665)
    have rf695 := (rw693.2.2.2.trans rf670)
    have dd696 := gSg.rawd (ci := 12) (ps := [31, 30, 29, 28, 27, 26, 25, 15, 14, 13, 12, 11, 10, 9, 4, 2]) g690 rf669 (fun w => by cases w) t632 (by decide) dd671
    have t697 : ty687 x = 200 := rw693.1.trans t632
    have t698 : ty687 c3 = 2 := gSg.typ g690 sS668.1 t633 rTk_2
    have t699 : ty687 c23 = 3 := gSg.typ g690 sS668.1 t634 rTk_3
    have t700 : ty687 c46 = 4 := gSg.typ g690 sS668.1 t635 rTk_4
    have t701 : ty687 c72 = 5 := gSg.typ g690 sS668.1 t636 rTk_5
    have t702 : ty687 c101 = 6 := gSg.typ g690 sS668.1 t637 rTk_6
    have t703 : ty687 c133 = 7 := gSg.typ g690 sS668.1 t638 rTk_7
    have t704 : ty687 c171 = 8 := gSg.typ g690 sS668.1 t639 rTk_8
    have t705 : ty687 c209 = 9 := gSg.typ g690 sS668.1 t640 rTk_9
    have t706 : ty687 c250 = 10 := gSg.typ g690 sS668.1 t641 rTk_10
    have t707 : ty687 c294 = 11 := gSg.typ g690 sS668.1 t642 rTk_11
    have t708 : ty687 c341 = 12 := gSg.typ g690 sS668.1 t643 rTk_12
    have t709 : ty687 c391 = 13 := gSg.typ g690 sS668.1 t644 rTk_13
    have t710 : ty687 c447 = 14 := gSg.typ g690 sS668.1 t645 rTk_14
    have t711 : ty687 c503 = 15 := gSg.typ g690 sS668.1 t646 rTk_15
    have t712 : ty687 c562 = 16 := gSg.typ g690 sS668.1 t647 rTk_16
    have t713 : ty687 c624 = 17 := gSg.typ g690 sS668.1 tc624 rTk_17
    have s714 := gSg.rawat g690 rf669 (fun w => by cases w) t632 (by decide) s672
    have s715 := gSg.rawat g690 rf669 (fun w => by cases w) t632 (by decide) s673
    have s716 := gSg.rawat g690 rf669 (fun w => by cases w) t632 (by decide) s674
    have s717 := gSg.rawat g690 rf669 (fun w => by cases w) t632 (by decide) s675
    have s718 := gSg.rawat g690 rf669 (fun w => by cases w) t632 (by decide) s676
    have s719 := gSg.rawat g690 rf669 (fun w => by cases w) t632 (by decide) s677
    have s720 := gSg.rawat g690 rf669 (fun w => by cases w) t632 (by decide) s678
    have s721 := gSg.rawat g690 rf669 (fun w => by cases w) t632 (by decide) s679
    have s722 := gSg.rawat g690 rf669 (fun w => by cases w) t632 (by decide) s680
    have s723 := gSg.rawat g690 rf669 (fun w => by cases w) t632 (by decide) s681
    have s724 := gSg.rawat g690 rf669 (fun w => by cases w) t632 (by decide) s682
    have s725 := gSg.rawat g690 rf669 (fun w => by cases w) t632 (by decide) s683
    have s726 := gSg.rawat g690 rf669 (fun w => by cases w) t632 (by decide) s684
    have s727 := gSg.rawat g690 rf669 (fun w => by cases w) t632 (by decide) s685
    have s728 := gSg.rawat g690 rf669 (fun w => by cases w) t632 (by decide) s686
    have s729 := gSg.rawat g690 rf669 (fun w => by cases w) t632 (by decide) eh665
    have pr730 : gNo [1, 19, 20, 21, 22, 23, 24, 25, 26, 27, 28, 29, 30, 31, 32, 33, 34, 35, 36, 37, 38, 39, 40, 41, 42] ty687 := gNo.gr g690 (by decide +kernel) (gNo.sub (by decide +kernel) pr663)
    have sS731 : gSs rT 1027 ty687 [8999, 10999, 31999] h688 h688 := gSs.rf g690.1
    clear G667 dd671 pr663 rf669 rf670 s672 s673 s674 s675 s676 s677 s678 s679 s680 s681 s682 s683 s684 s685 s686 sS668 t632 t633 t634 t635 t636 t637 t638 t639 t640 t641 t642 t643 t644 t645 t646 t647 uq626
    refine gs_rput rfl (by decide) rfl sS731.1 t697 nx rw693.2.1 rf694 rfl (Or.inr rfl) (fun h732 g733 nh732 mh732 kh732 zh732 eh732 fh732 => ?_)
    have G734 : gSg [1, 2, 3, 4, 5, 6, 7, 8, 9, 10, 11, 12, 13, 14, 15, 16, 17, 18, 19, 20, 21, 22, 23, 24, 25, 26, 27, 28, 29, 30, 31, 32, 33, 34, 35, 36, 37, 38, 39, 40, 41, 42, 200] [x] [8999, 10999, 31999] ty h ty687 h732 := gSg.tr (gSg.ss G692 sS731 (by decide)) g733 (by decide) (by decide) (fun x hx => Or.inr hx)
    have sS735 : gSs rT 1027 ty687 [8999, 10999, 31999] h732 h732 := gSs.rf g733.1
    have rf736 := Nat.lt_of_lt_of_eq rw693.2.1 nh732.symm
    have rf737 := zh732.trans rf695
    have dd738 : ∀ k, ¬ k ∈ ([32, 31, 30, 29, 28, 27, 26, 25, 15, 14, 13, 12, 11, 10, 9, 4, 2] : List Nat) → h732.2.2.2.2 x k = defaultValue (gGG.2.1 12 k) := raw_dp fh732 dd696
    have s739 := (fh732 2 (by decide)).trans s714
    have s740 := (fh732 4 (by decide)).trans s715
    have s741 := (fh732 9 (by decide)).trans s716
    have s742 := (fh732 10 (by decide)).trans s717
    have s743 := (fh732 11 (by decide)).trans s718
    have s744 := (fh732 12 (by decide)).trans s719
    have s745 := (fh732 13 (by decide)).trans s720
    have s746 := (fh732 14 (by decide)).trans s721
    have s747 := (fh732 15 (by decide)).trans s722
    have s748 := (fh732 25 (by decide)).trans s723
    have s749 := (fh732 26 (by decide)).trans s724
    have s750 := (fh732 27 (by decide)).trans s725
    have s751 := (fh732 28 (by decide)).trans s726
    have s752 := (fh732 29 (by decide)).trans s727
    have s753 := (fh732 30 (by decide)).trans s728
    have s754 := (fh732 31 (by decide)).trans s729
    clear G692 dd696 rf694 rf695 rw693 s714 s715 s716 s717 s718 s719 s720 s721 s722 s723 s724 s725 s726 s727 s728 s729 sS731
    have lp755 := cmlp755 d hJ x nx c3 c23 c46 c72 c101 c133 c171 c209 c250 c294 c341 c391 c447 c503 c562 c624 c689
    have G3575 : gSg [1, 2, 3, 4, 5, 6, 7, 8, 9, 10, 11, 12, 13, 14, 15, 16, 17, 18, 19, 20, 21, 22, 23, 24, 25, 26, 27, 28, 29, 30, 31, 32, 33, 34, 35, 36, 37, 38, 39, 40, 41, 42, 200] [x] [8999, 10999, 31999] ty h ty687 h732 := gSg.ss G734 sS735 (by decide)
    exact gz_wk (lp755 _ ty687 h732  (Nat.lt_succ_self _) G3575 uq691 t697 t698 t699 t700 t701 t702 t703 t704 t705 t706 t707 t708 t709 t710 t711 t712 t713 tc689 (by omega) (by omega) s739 s740 s741 s742 s743 s744 s745 s746 s747 s748 s749 s750 s751 s752 s753 s754 eh732 pr730 rf736 kh732 rf737 dd738) (gLw.s (gLw.n (gLw.n (gLw.n (gLw.n gLw.z)))))
set_option maxRecDepth 20000 in
set_option maxHeartbeats 4000000 in
theorem cmlp166 (d : Nat) {ty : Nat → Nat} {h : gH} (hJ : gJ rT 1027 ty h) (x : Nat) (nx : 1027 ≤ x) (c3 c23 c46 c72 c101 c133 : Nat) : ∀ (fu : Nat) (ty168 : Nat → Nat) (h167 : gH), ((1 : Int)).toNat < fu → gSg [1, 2, 3, 4, 5, 6, 7, 8, 9, 10, 11, 12, 13, 14, 15, 16, 17, 18, 19, 20, 21, 22, 23, 24, 25, 26, 27, 28, 29, 30, 31, 32, 33, 34, 35, 36, 37, 38, 39, 40, 41, 42, 200] [x] [8999, 10999, 31999] ty h ty168 h167 → gUq ty168 → ty168 x = 200 → ty168 c3 = 2 → ty168 c23 = 3 → ty168 c46 = 4 → ty168 c72 = 5 → ty168 c101 = 6 → ty168 c133 = 7 → ((h167.1 : Int) = h.1 + 6) → ((h167.2.1 : Int) = h.2.1 + 10176) → h167.2.2.2.2 x 2 = .ref c3 → h167.2.2.2.2 x 4 = .ref c23 → h167.2.2.2.2 x 9 = .ref c46 → h167.2.2.2.2 x 10 = .ref c72 → h167.2.2.2.2 x 11 = .ref c101 → h167.2.2.2.2 x 12 = .ref c133 → gNo [1, 8, 9, 10, 11, 12, 13, 14, 15, 16, 17, 18, 19, 20, 21, 22, 23, 24, 25, 26, 27, 28, 29, 30, 31, 32, 33, 34, 35, 36, 37, 38, 39, 40, 41, 42] ty168 → x < h167.1 → h167.2.2.1 x = some (.inr 12) → h167.2.2.2.1 x = 0 → (∀ k, ¬ k ∈ ([12, 11, 10, 9, 4, 2] : List Nat) → h167.2.2.2.2 x k = defaultValue (gGG.2.1 12 k)) → gz gPP gGG gcn (d + 1) gt130 57 [some (.ref x), none, none, none, none] [] h167 (fun q _ => ∃ ty9 : Nat → Nat, gSg [1, 2, 3, 4, 5, 6, 7, 8, 9, 10, 11, 12, 13, 14, 15, 16, 17, 18, 19, 20, 21, 22, 23, 24, 25, 26, 27, 28, 29, 30, 31, 32, 33, 34, 35, 36, 37, 38, 39, 40, 41, 42, 200] [x] [8999, 10999, 31999] ty h ty9 q.2.2 ∧ ∃ ip n1 cw ch iv1 : Int, ty9 x = 1 ∧ gfin gt130 q.1 q.2.1 = some none ∧ q.2.2.2.2.2.2 x 16 = .int (zi ip) ∧ 0 ≤ ip ∧ ip ≤ 1 ∧ q.2.2.2.2.2.2 x 53 = .int (zi n1) ∧ 0 ≤ n1 ∧ n1 ≤ 10 ∧ q.2.2.2.2.2.2 x 50 = .int (zi cw) ∧ 0 ≤ cw ∧ cw ≤ 32 ∧ q.2.2.2.2.2.2 x 51 = .int (zi ch) ∧ 0 ≤ ch ∧ ch ≤ 32 ∧ q.2.2.2.2.2.2 x 52 = .int (zi iv1) ∧ 0 ≤ iv1 ∧ iv1 ≤ 100 ∧ (ip = 0) ∧ (n1 = 0) ∧ (cw = 0) ∧ (ch = 0) ∧ (iv1 = 0) ∧ ((q.2.2.1 : Int) = h.1 + 41) ∧ ((q.2.2.2.1 : Int) = h.2.1 + 88652) ∧ (gTs ty9 0 q.2.2) ∧ (gOy ty9 31 (-1) 64 q.2.2) ∧ gUq ty9) := by
  intro fu
  induction fu with
  | zero => intro ty168 h167  hm; exact absurd hm (Nat.not_lt_zero _)
  | succ fu ihlp166 =>
    intro ty168 h167  lp166m lp166G lp166u lp166c0 lp166c1 lp166c2 lp166c3 lp166c4 lp166c5 lp166c6 lp166f0 lp166f1 lp166k0 lp166k1 lp166k2 lp166k3 lp166k4 lp166k5 lp166k6 lp166w0 lp166w1 lp166w2 lp166w3
    have sh167 : gSs rT 1027 ty168 [8999, 10999, 31999] h167 h167 := gSs.rf lp166G.1
    refine gz_s 2 (pc' := 61) (L' := [some (.ref x), none, none, none, none]) (S' := [.int (zi 256), .ref x]) rfl ?_
    refine gs_newr 8 rfl (by decide) rfl sh167.1 (Nat.le_of_lt (Nat.lt_of_le_of_lt (gJ.cell sh167.1 lp166c1 rfl).1 (gJ.cell sh167.1 lp166c1 rfl).2.1)) (by omega) (by omega) rfl rfl (by show (256 : Int) ≤ _; omega) (by show _ ≤ (256 : Int); omega) (fun _ _ => gos_i (by decide) (by decide)) (fun ty169 h170 c171 g172 tc171 lc171 nc171 mc171 ec171 dc171 uc171 => ?_)
    have gac171 : h.1 ≤ c171 := by have h8 := lp166G.2.1; have h9 := sh167.2.1; omega
    have uq173 := uc171 lp166u (Or.inr (gNo.sub (by decide +kernel) lp166k6))
    have G174 : gSg [1, 2, 3, 4, 5, 6, 7, 8, 9, 10, 11, 12, 13, 14, 15, 16, 17, 18, 19, 20, 21, 22, 23, 24, 25, 26, 27, 28, 29, 30, 31, 32, 33, 34, 35, 36, 37, 38, 39, 40, 41, 42, 200] [x] [8999, 10999, 31999] ty h ty169 h170 := gSg.tr (gSg.ss lp166G sh167 (by decide)) g172 (by decide) (by decide) (fun x hx => by cases hx)
    have rw175 := gSg.raw g172 lp166w0 (fun w => by cases w)
    have rf176 := (rw175.2.2.1.trans lp166w1)
    have rf177 := (rw175.2.2.2.trans lp166w2)
    have dd178 := gSg.rawd (ci := 12) (ps := [12, 11, 10, 9, 4, 2]) g172 lp166w0 (fun w => by cases w) lp166c0 (by decide) lp166w3
    have t179 : ty169 x = 200 := rw175.1.trans lp166c0
    have t180 : ty169 c3 = 2 := gSg.typ g172 sh167.1 lp166c1 rTk_2
    have t181 : ty169 c23 = 3 := gSg.typ g172 sh167.1 lp166c2 rTk_3
    have t182 : ty169 c46 = 4 := gSg.typ g172 sh167.1 lp166c3 rTk_4
    have t183 : ty169 c72 = 5 := gSg.typ g172 sh167.1 lp166c4 rTk_5
    have t184 : ty169 c101 = 6 := gSg.typ g172 sh167.1 lp166c5 rTk_6
    have t185 : ty169 c133 = 7 := gSg.typ g172 sh167.1 lp166c6 rTk_7
    have s186 := gSg.rawat g172 lp166w0 (fun w => by cases w) lp166c0 (by decide) lp166k0
    have s187 := gSg.rawat g172 lp166w0 (fun w => by cases w) lp166c0 (by decide) lp166k1
    have s188 := gSg.rawat g172 lp166w0 (fun w => by cases w) lp166c0 (by decide) lp166k2
    have s189 := gSg.rawat g172 lp166w0 (fun w => by cases w) lp166c0 (by decide) lp166k3
    have s190 := gSg.rawat g172 lp166w0 (fun w => by cases w) lp166c0 (by decide) lp166k4
    have s191 := gSg.rawat g172 lp166w0 (fun w => by cases w) lp166c0 (by decide) lp166k5
    have pr192 : gNo [1, 9, 10, 11, 12, 13, 14, 15, 16, 17, 18, 19, 20, 21, 22, 23, 24, 25, 26, 27, 28, 29, 30, 31, 32, 33, 34, 35, 36, 37, 38, 39, 40, 41, 42] ty169 := gNo.gr g172 (by decide +kernel) (gNo.sub (by decide +kernel) lp166k6)
    have sS193 : gSs rT 1027 ty169 [8999, 10999, 31999] h170 h170 := gSs.rf g172.1
    refine gs_rput rfl (by decide) rfl sS193.1 t179 nx rw175.2.1 rf176 rfl (Or.inr rfl) (fun h194 g195 nh194 mh194 kh194 zh194 eh194 fh194 => ?_)
    have G196 : gSg [1, 2, 3, 4, 5, 6, 7, 8, 9, 10, 11, 12, 13, 14, 15, 16, 17, 18, 19, 20, 21, 22, 23, 24, 25, 26, 27, 28, 29, 30, 31, 32, 33, 34, 35, 36, 37, 38, 39, 40, 41, 42, 200] [x] [8999, 10999, 31999] ty h ty169 h194 := gSg.tr (gSg.ss G174 sS193 (by decide)) g195 (by decide) (by decide) (fun x hx => Or.inr hx)
    have sS197 : gSs rT 1027 ty169 [8999, 10999, 31999] h194 h194 := gSs.rf g195.1
    have rf198 := Nat.lt_of_lt_of_eq rw175.2.1 nh194.symm
    have rf199 := zh194.trans rf177
    have dd200 : ∀ k, ¬ k ∈ ([13, 12, 11, 10, 9, 4, 2] : List Nat) → h194.2.2.2.2 x k = defaultValue (gGG.2.1 12 k) := raw_dp fh194 dd178
    have s201 := (fh194 2 (by decide)).trans s186
    have s202 := (fh194 4 (by decide)).trans s187
    have s203 := (fh194 9 (by decide)).trans s188
    have s204 := (fh194 10 (by decide)).trans s189
    have s205 := (fh194 11 (by decide)).trans s190
    have s206 := (fh194 12 (by decide)).trans s191
    clear G174 dd178 rf176 rf177 rw175 s186 s187 s188 s189 s190 s191 sS193
    refine gz_s 2 (pc' := 70) (L' := [some (.ref x), none, none, none, none]) (S' := [.int (zi 256), .ref x]) rfl ?_
    refine gs_newr 9 rfl (by decide) rfl sS197.1 (Nat.le_of_lt (Nat.lt_of_le_of_lt (gJ.cell sS197.1 t180 rfl).1 (gJ.cell sS197.1 t180 rfl).2.1)) (by omega) (by omega) rfl rfl (by show (256 : Int) ≤ _; omega) (by show _ ≤ (256 : Int); omega) (fun _ _ => gos_i (by decide) (by decide)) (fun ty207 h208 c209 g210 tc209 lc209 nc209 mc209 ec209 dc209 uc209 => ?_)
    have gac209 : h.1 ≤ c209 := by have h8 := G196.2.1; have h9 := sS197.2.1; omega
    have uq211 := uc209 uq173 (Or.inr (gNo.sub (by decide +kernel) pr192))
    have G212 : gSg [1, 2, 3, 4, 5, 6, 7, 8, 9, 10, 11, 12, 13, 14, 15, 16, 17, 18, 19, 20, 21, 22, 23, 24, 25, 26, 27, 28, 29, 30, 31, 32, 33, 34, 35, 36, 37, 38, 39, 40, 41, 42, 200] [x] [8999, 10999, 31999] ty h ty207 h208 := gSg.tr (gSg.ss G196 sS197 (by decide)) g210 (by decide) (by decide) (fun x hx => by cases hx)
    have rw213 := gSg.raw g210 rf198 (fun w => by cases w)
    have rf214 := (rw213.2.2.1.trans kh194)
    have rf215 := (rw213.2.2.2.trans rf199)
    have dd216 := gSg.rawd (ci := 12) (ps := [13, 12, 11, 10, 9, 4, 2]) g210 rf198 (fun w => by cases w) t179 (by decide) dd200
    have t217 : ty207 x = 200 := rw213.1.trans t179
    have t218 : ty207 c3 = 2 := gSg.typ g210 sS197.1 t180 rTk_2
    have t219 : ty207 c23 = 3 := gSg.typ g210 sS197.1 t181 rTk_3
    have t220 : ty207 c46 = 4 := gSg.typ g210 sS197.1 t182 rTk_4
    have t221 : ty207 c72 = 5 := gSg.typ g210 sS197.1 t183 rTk_5
    have t222 : ty207 c101 = 6 := gSg.typ g210 sS197.1 t184 rTk_6
    have t223 : ty207 c133 = 7 := gSg.typ g210 sS197.1 t185 rTk_7
    have t224 : ty207 c171 = 8 := gSg.typ g210 sS197.1 tc171 rTk_8
    have s225 := gSg.rawat g210 rf198 (fun w => by cases w) t179 (by decide) s201
    have s226 := gSg.rawat g210 rf198 (fun w => by cases w) t179 (by decide) s202
    have s227 := gSg.rawat g210 rf198 (fun w => by cases w) t179 (by decide) s203
    have s228 := gSg.rawat g210 rf198 (fun w => by cases w) t179 (by decide) s204
    have s229 := gSg.rawat g210 rf198 (fun w => by cases w) t179 (by decide) s205
    have s230 := gSg.rawat g210 rf198 (fun w => by cases w) t179 (by decide) s206
    have s231 := gSg.rawat g210 rf198 (fun w => by cases w) t179 (by decide) eh194
    have pr232 : gNo [1, 10, 11, 12, 13, 14, 15, 16, 17, 18, 19, 20, 21, 22, 23, 24, 25, 26, 27, 28, 29, 30, 31, 32, 33, 34, 35, 36, 37, 38, 39, 40, 41, 42] ty207 := gNo.gr g210 (by decide +kernel) (gNo.sub (by decide +kernel) pr192)
    have sS233 : gSs rT 1027 ty207 [8999, 10999, 31999] h208 h208 := gSs.rf g210.1
    clear G196 dd200 pr192 rf198 rf199 s201 s202 s203 s204 s205 s206 sS197 t179 t180 t181 t182 t183 t184 t185 uq173
    refine gs_rput rfl (by decide) rfl sS233.1 t217 nx rw213.2.1 rf214 rfl (Or.inr rfl) (fun h234 g235 nh234 mh234 kh234 zh234 eh234 fh234 => ?_)
    have G236 : gSg [1, 2, 3, 4, 5, 6, 7, 8, 9, 10, 11, 12, 13, 14, 15, 16, 17, 18, 19, 20, 21, 22, 23, 24, 25, 26, 27, 28, 29, 30, 31, 32, 33, 34, 35, 36, 37, 38, 39, 40, 41, 42, 200] [x] [8999, 10999, 31999] ty h ty207 h234 := gSg.tr (gSg.ss G212 sS233 (by decide)) g235 (by decide) (by decide) (fun x hx => Or.inr hx)
    have sS237 : gSs rT 1027 ty207 [8999, 10999, 31999] h234 h234 := gSs.rf g235.1
    have rf238 := Nat.lt_of_lt_of_eq rw213.2.1 nh234.symm
    have rf239 := zh234.trans rf215
    have dd240 : ∀ k, ¬ k ∈ ([14, 13, 12, 11, 10, 9, 4, 2] : List Nat) → h234.2.2.2.2 x k = defaultValue (gGG.2.1 12 k) := raw_dp fh234 dd216
    have s241 := (fh234 2 (by decide)).trans s225
    have s242 := (fh234 4 (by decide)).trans s226
    have s243 := (fh234 9 (by decide)).trans s227
    have s244 := (fh234 10 (by decide)).trans s228
    have s245 := (fh234 11 (by decide)).trans s229
    have s246 := (fh234 12 (by decide)).trans s230
    have s247 := (fh234 13 (by decide)).trans s231
    clear G212 dd216 rf214 rf215 rw213 s225 s226 s227 s228 s229 s230 s231 sS233
    refine gz_s 2 (pc' := 78) (L' := [some (.ref x), none, none, none, none]) (S' := [.int (zi 64), .ref x]) rfl ?_
    refine gs_newr 10 rfl (by decide) rfl sS237.1 (Nat.le_of_lt (Nat.lt_of_le_of_lt (gJ.cell sS237.1 t218 rfl).1 (gJ.cell sS237.1 t218 rfl).2.1)) (by omega) (by omega) rfl rfl (by show (64 : Int) ≤ _; omega) (by show _ ≤ (64 : Int); omega) (fun _ _ => gos_i (by decide) (by decide)) (fun ty248 h249 c250 g251 tc250 lc250 nc250 mc250 ec250 dc250 uc250 => ?_)
    have gac250 : h.1 ≤ c250 := by have h8 := G236.2.1; have h9 := sS237.2.1; omega
    have uq252 := uc250 uq211 (Or.inr (gNo.sub (by decide +kernel) pr232))
    have G253 : gSg [1, 2, 3, 4, 5, 6, 7, 8, 9, 10, 11, 12, 13, 14, 15, 16, 17, 18, 19, 20, 21, 22, 23, 24, 25, 26, 27, 28, 29, 30, 31, 32, 33, 34, 35, 36, 37, 38, 39, 40, 41, 42, 200] [x] [8999, 10999, 31999] ty h ty248 h249 := gSg.tr (gSg.ss G236 sS237 (by decide)) g251 (by decide) (by decide) (fun x hx => by cases hx)
    have rw254 := gSg.raw g251 rf238 (fun w => by cases w)
    have rf255 := (rw254.2.2.1.trans kh234)
    have rf256 := (rw254.2.2.2.trans rf239)
    have dd257 := gSg.rawd (ci := 12) (ps := [14, 13, 12, 11, 10, 9, 4, 2]) g251 rf238 (fun w => by cases w) t217 (by decide) dd240
    have t258 : ty248 x = 200 := rw254.1.trans t217
    have t259 : ty248 c3 = 2 := gSg.typ g251 sS237.1 t218 rTk_2
    have t260 : ty248 c23 = 3 := gSg.typ g251 sS237.1 t219 rTk_3
    have t261 : ty248 c46 = 4 := gSg.typ g251 sS237.1 t220 rTk_4
    have t262 : ty248 c72 = 5 := gSg.typ g251 sS237.1 t221 rTk_5
    have t263 : ty248 c101 = 6 := gSg.typ g251 sS237.1 t222 rTk_6
    have t264 : ty248 c133 = 7 := gSg.typ g251 sS237.1 t223 rTk_7
    have t265 : ty248 c171 = 8 := gSg.typ g251 sS237.1 t224 rTk_8
    have t266 : ty248 c209 = 9 := gSg.typ g251 sS237.1 tc209 rTk_9
    have s267 := gSg.rawat g251 rf238 (fun w => by cases w) t217 (by decide) s241
    have s268 := gSg.rawat g251 rf238 (fun w => by cases w) t217 (by decide) s242
    have s269 := gSg.rawat g251 rf238 (fun w => by cases w) t217 (by decide) s243
    have s270 := gSg.rawat g251 rf238 (fun w => by cases w) t217 (by decide) s244
    have s271 := gSg.rawat g251 rf238 (fun w => by cases w) t217 (by decide) s245
    have s272 := gSg.rawat g251 rf238 (fun w => by cases w) t217 (by decide) s246
    have s273 := gSg.rawat g251 rf238 (fun w => by cases w) t217 (by decide) s247
    have s274 := gSg.rawat g251 rf238 (fun w => by cases w) t217 (by decide) eh234
    have pr275 : gNo [1, 11, 12, 13, 14, 15, 16, 17, 18, 19, 20, 21, 22, 23, 24, 25, 26, 27, 28, 29, 30, 31, 32, 33, 34, 35, 36, 37, 38, 39, 40, 41, 42] ty248 := gNo.gr g251 (by decide +kernel) (gNo.sub (by decide +kernel) pr232)
    have sS276 : gSs rT 1027 ty248 [8999, 10999, 31999] h249 h249 := gSs.rf g251.1
    clear G236 dd240 pr232 rf238 rf239 s241 s242 s243 s244 s245 s246 s247 sS237 t217 t218 t219 t220 t221 t222 t223 t224 uq211
    refine gs_rput rfl (by decide) rfl sS276.1 t258 nx rw254.2.1 rf255 rfl (Or.inr rfl) (fun h277 g278 nh277 mh277 kh277 zh277 eh277 fh277 => ?_)
    have G279 : gSg [1, 2, 3, 4, 5, 6, 7, 8, 9, 10, 11, 12, 13, 14, 15, 16, 17, 18, 19, 20, 21, 22, 23, 24, 25, 26, 27, 28, 29, 30, 31, 32, 33, 34, 35, 36, 37, 38, 39, 40, 41, 42, 200] [x] [8999, 10999, 31999] ty h ty248 h277 := gSg.tr (gSg.ss G253 sS276 (by decide)) g278 (by decide) (by decide) (fun x hx => Or.inr hx)
    have sS280 : gSs rT 1027 ty248 [8999, 10999, 31999] h277 h277 := gSs.rf g278.1
    have rf281 := Nat.lt_of_lt_of_eq rw254.2.1 nh277.symm
    have rf282 := zh277.trans rf256
    have dd283 : ∀ k, ¬ k ∈ ([15, 14, 13, 12, 11, 10, 9, 4, 2] : List Nat) → h277.2.2.2.2 x k = defaultValue (gGG.2.1 12 k) := raw_dp fh277 dd257
    have s284 := (fh277 2 (by decide)).trans s267
    have s285 := (fh277 4 (by decide)).trans s268
    have s286 := (fh277 9 (by decide)).trans s269
    have s287 := (fh277 10 (by decide)).trans s270
    have s288 := (fh277 11 (by decide)).trans s271
    have s289 := (fh277 12 (by decide)).trans s272
    have s290 := (fh277 13 (by decide)).trans s273
    have s291 := (fh277 14 (by decide)).trans s274
    clear G253 dd257 rf255 rf256 rw254 s267 s268 s269 s270 s271 s272 s273 s274 sS276
    refine gz_s 2 (pc' := 85) (L' := [some (.ref x), none, none, none, none]) (S' := [.int (zi 3), .ref x]) rfl ?_
    refine gs_newr 11 rfl (by decide) rfl sS280.1 (Nat.le_of_lt (Nat.lt_of_le_of_lt (gJ.cell sS280.1 t259 rfl).1 (gJ.cell sS280.1 t259 rfl).2.1)) (by omega) (by omega) rfl rfl (by show (3 : Int) ≤ _; omega) (by show _ ≤ (3 : Int); omega) (fun _ _ => gos_i (by decide) (by decide)) (fun ty292 h293 c294 g295 tc294 lc294 nc294 mc294 ec294 dc294 uc294 => ?_)
    have gac294 : h.1 ≤ c294 := by have h8 := G279.2.1; have h9 := sS280.2.1; omega
    have uq296 := uc294 uq252 (Or.inr (gNo.sub (by decide +kernel) pr275))
    have G297 : gSg [1, 2, 3, 4, 5, 6, 7, 8, 9, 10, 11, 12, 13, 14, 15, 16, 17, 18, 19, 20, 21, 22, 23, 24, 25, 26, 27, 28, 29, 30, 31, 32, 33, 34, 35, 36, 37, 38, 39, 40, 41, 42, 200] [x] [8999, 10999, 31999] ty h ty292 h293 := gSg.tr (gSg.ss G279 sS280 (by decide)) g295 (by decide) (by decide) (fun x hx => by cases hx)
    have rw298 := gSg.raw g295 rf281 (fun w => by cases w)
    have rf299 := (rw298.2.2.1.trans kh277)
    have rf300 := (rw298.2.2.2.trans rf282)
    have dd301 := gSg.rawd (ci := 12) (ps := [15, 14, 13, 12, 11, 10, 9, 4, 2]) g295 rf281 (fun w => by cases w) t258 (by decide) dd283
    have t302 : ty292 x = 200 := rw298.1.trans t258
    have t303 : ty292 c3 = 2 := gSg.typ g295 sS280.1 t259 rTk_2
    have t304 : ty292 c23 = 3 := gSg.typ g295 sS280.1 t260 rTk_3
    have t305 : ty292 c46 = 4 := gSg.typ g295 sS280.1 t261 rTk_4
    have t306 : ty292 c72 = 5 := gSg.typ g295 sS280.1 t262 rTk_5
    have t307 : ty292 c101 = 6 := gSg.typ g295 sS280.1 t263 rTk_6
    have t308 : ty292 c133 = 7 := gSg.typ g295 sS280.1 t264 rTk_7
    have t309 : ty292 c171 = 8 := gSg.typ g295 sS280.1 t265 rTk_8
    have t310 : ty292 c209 = 9 := gSg.typ g295 sS280.1 t266 rTk_9
    have t311 : ty292 c250 = 10 := gSg.typ g295 sS280.1 tc250 rTk_10
    have s312 := gSg.rawat g295 rf281 (fun w => by cases w) t258 (by decide) s284
    have s313 := gSg.rawat g295 rf281 (fun w => by cases w) t258 (by decide) s285
    have s314 := gSg.rawat g295 rf281 (fun w => by cases w) t258 (by decide) s286
    have s315 := gSg.rawat g295 rf281 (fun w => by cases w) t258 (by decide) s287
    have s316 := gSg.rawat g295 rf281 (fun w => by cases w) t258 (by decide) s288
    have s317 := gSg.rawat g295 rf281 (fun w => by cases w) t258 (by decide) s289
    have s318 := gSg.rawat g295 rf281 (fun w => by cases w) t258 (by decide) s290
    have s319 := gSg.rawat g295 rf281 (fun w => by cases w) t258 (by decide) s291
    have s320 := gSg.rawat g295 rf281 (fun w => by cases w) t258 (by decide) eh277
    have pr321 : gNo [1, 12, 13, 14, 15, 16, 17, 18, 19, 20, 21, 22, 23, 24, 25, 26, 27, 28, 29, 30, 31, 32, 33, 34, 35, 36, 37, 38, 39, 40, 41, 42] ty292 := gNo.gr g295 (by decide +kernel) (gNo.sub (by decide +kernel) pr275)
    have sS322 : gSs rT 1027 ty292 [8999, 10999, 31999] h293 h293 := gSs.rf g295.1
    clear G279 dd283 pr275 rf281 rf282 s284 s285 s286 s287 s288 s289 s290 s291 sS280 t258 t259 t260 t261 t262 t263 t264 t265 t266 uq252
    refine gs_rput rfl (by decide) rfl sS322.1 t302 nx rw298.2.1 rf299 rfl (Or.inr rfl) (fun h323 g324 nh323 mh323 kh323 zh323 eh323 fh323 => ?_)
    have G325 : gSg [1, 2, 3, 4, 5, 6, 7, 8, 9, 10, 11, 12, 13, 14, 15, 16, 17, 18, 19, 20, 21, 22, 23, 24, 25, 26, 27, 28, 29, 30, 31, 32, 33, 34, 35, 36, 37, 38, 39, 40, 41, 42, 200] [x] [8999, 10999, 31999] ty h ty292 h323 := gSg.tr (gSg.ss G297 sS322 (by decide)) g324 (by decide) (by decide) (fun x hx => Or.inr hx)
    have sS326 : gSs rT 1027 ty292 [8999, 10999, 31999] h323 h323 := gSs.rf g324.1
    have rf327 := Nat.lt_of_lt_of_eq rw298.2.1 nh323.symm
    have rf328 := zh323.trans rf300
    have dd329 : ∀ k, ¬ k ∈ ([25, 15, 14, 13, 12, 11, 10, 9, 4, 2] : List Nat) → h323.2.2.2.2 x k = defaultValue (gGG.2.1 12 k) := raw_dp fh323 dd301
    have s330 := (fh323 2 (by decide)).trans s312
    have s331 := (fh323 4 (by decide)).trans s313
    have s332 := (fh323 9 (by decide)).trans s314
    have s333 := (fh323 10 (by decide)).trans s315
    have s334 := (fh323 11 (by decide)).trans s316
    have s335 := (fh323 12 (by decide)).trans s317
    have s336 := (fh323 13 (by decide)).trans s318
    have s337 := (fh323 14 (by decide)).trans s319
    have s338 := (fh323 15 (by decide)).trans s320
    clear G297 dd301 rf299 rf300 rw298 s312 s313 s314 s315 s316 s317 s318 s319 s320 sS322
    refine gz_s 2 (pc' := 92) (L' := [some (.ref x), none, none, none, none]) (S' := [.int (zi 3), .ref x]) rfl ?_
    refine gs_newr 12 rfl (by decide) rfl sS326.1 (Nat.le_of_lt (Nat.lt_of_le_of_lt (gJ.cell sS326.1 t303 rfl).1 (gJ.cell sS326.1 t303 rfl).2.1)) (by omega) (by omega) rfl rfl (by show (3 : Int) ≤ _; omega) (by show _ ≤ (3 : Int); omega) (fun _ _ => gos_i (by decide) (by decide)) (fun ty339 h340 c341 g342 tc341 lc341 nc341 mc341 ec341 dc341 uc341 => ?_)
    have gac341 : h.1 ≤ c341 := by have h8 := G325.2.1; have h9 := sS326.2.1; omega
    have uq343 := uc341 uq296 (Or.inr (gNo.sub (by decide +kernel) pr321))
    have G344 : gSg [1, 2, 3, 4, 5, 6, 7, 8, 9, 10, 11, 12, 13, 14, 15, 16, 17, 18, 19, 20, 21, 22, 23, 24, 25, 26, 27, 28, 29, 30, 31, 32, 33, 34, 35, 36, 37, 38, 39, 40, 41, 42, 200] [x] [8999, 10999, 31999] ty h ty339 h340 := gSg.tr (gSg.ss G325 sS326 (by decide)) g342 (by decide) (by decide) (fun x hx => by cases hx)
    have rw345 := gSg.raw g342 rf327 (fun w => by cases w)
    have rf346 := (rw345.2.2.1.trans kh323)
    have rf347 := (rw345.2.2.2.trans rf328)
    have dd348 := gSg.rawd (ci := 12) (ps := [25, 15, 14, 13, 12, 11, 10, 9, 4, 2]) g342 rf327 (fun w => by cases w) t302 (by decide) dd329
    have t349 : ty339 x = 200 := rw345.1.trans t302
    have t350 : ty339 c3 = 2 := gSg.typ g342 sS326.1 t303 rTk_2
    have t351 : ty339 c23 = 3 := gSg.typ g342 sS326.1 t304 rTk_3
    have t352 : ty339 c46 = 4 := gSg.typ g342 sS326.1 t305 rTk_4
    have t353 : ty339 c72 = 5 := gSg.typ g342 sS326.1 t306 rTk_5
    have t354 : ty339 c101 = 6 := gSg.typ g342 sS326.1 t307 rTk_6
    have t355 : ty339 c133 = 7 := gSg.typ g342 sS326.1 t308 rTk_7
    have t356 : ty339 c171 = 8 := gSg.typ g342 sS326.1 t309 rTk_8
    have t357 : ty339 c209 = 9 := gSg.typ g342 sS326.1 t310 rTk_9
    have t358 : ty339 c250 = 10 := gSg.typ g342 sS326.1 t311 rTk_10
    have t359 : ty339 c294 = 11 := gSg.typ g342 sS326.1 tc294 rTk_11
    have s360 := gSg.rawat g342 rf327 (fun w => by cases w) t302 (by decide) s330
    have s361 := gSg.rawat g342 rf327 (fun w => by cases w) t302 (by decide) s331
    have s362 := gSg.rawat g342 rf327 (fun w => by cases w) t302 (by decide) s332
    have s363 := gSg.rawat g342 rf327 (fun w => by cases w) t302 (by decide) s333
    have s364 := gSg.rawat g342 rf327 (fun w => by cases w) t302 (by decide) s334
    have s365 := gSg.rawat g342 rf327 (fun w => by cases w) t302 (by decide) s335
    have s366 := gSg.rawat g342 rf327 (fun w => by cases w) t302 (by decide) s336
    have s367 := gSg.rawat g342 rf327 (fun w => by cases w) t302 (by decide) s337
    have s368 := gSg.rawat g342 rf327 (fun w => by cases w) t302 (by decide) s338
    have s369 := gSg.rawat g342 rf327 (fun w => by cases w) t302 (by decide) eh323
    have pr370 : gNo [1, 13, 14, 15, 16, 17, 18, 19, 20, 21, 22, 23, 24, 25, 26, 27, 28, 29, 30, 31, 32, 33, 34, 35, 36, 37, 38, 39, 40, 41, 42] ty339 := gNo.gr g342 (by decide +kernel) (gNo.sub (by decide +kernel) pr321)
    have sS371 : gSs rT 1027 ty339 [8999, 10999, 31999] h340 h340 := gSs.rf g342.1
    clear G325 dd329 pr321 rf327 rf328 s330 s331 s332 s333 s334 s335 s336 s337 s338 sS326 t302 t303 t304 t305 t306 t307 t308 t309 t310 t311 uq296
    refine gs_rput rfl (by decide) rfl sS371.1 t349 nx rw345.2.1 rf346 rfl (Or.inr rfl) (fun h372 g373 nh372 mh372 kh372 zh372 eh372 fh372 => ?_)
    have G374 : gSg [1, 2, 3, 4, 5, 6, 7, 8, 9, 10, 11, 12, 13, 14, 15, 16, 17, 18, 19, 20, 21, 22, 23, 24, 25, 26, 27, 28, 29, 30, 31, 32, 33, 34, 35, 36, 37, 38, 39, 40, 41, 42, 200] [x] [8999, 10999, 31999] ty h ty339 h372 := gSg.tr (gSg.ss G344 sS371 (by decide)) g373 (by decide) (by decide) (fun x hx => Or.inr hx)
    have sS375 : gSs rT 1027 ty339 [8999, 10999, 31999] h372 h372 := gSs.rf g373.1
    have rf376 := Nat.lt_of_lt_of_eq rw345.2.1 nh372.symm
    have rf377 := zh372.trans rf347
    have dd378 : ∀ k, ¬ k ∈ ([26, 25, 15, 14, 13, 12, 11, 10, 9, 4, 2] : List Nat) → h372.2.2.2.2 x k = defaultValue (gGG.2.1 12 k) := raw_dp fh372 dd348
    have s379 := (fh372 2 (by decide)).trans s360
    have s380 := (fh372 4 (by decide)).trans s361
    have s381 := (fh372 9 (by decide)).trans s362
    have s382 := (fh372 10 (by decide)).trans s363
    have s383 := (fh372 11 (by decide)).trans s364
    have s384 := (fh372 12 (by decide)).trans s365
    have s385 := (fh372 13 (by decide)).trans s366
    have s386 := (fh372 14 (by decide)).trans s367
    have s387 := (fh372 15 (by decide)).trans s368
    have s388 := (fh372 25 (by decide)).trans s369
    clear G344 dd348 rf346 rf347 rw345 s360 s361 s362 s363 s364 s365 s366 s367 s368 s369 sS371
    refine gz_s 2 (pc' := 99) (L' := [some (.ref x), none, none, none, none]) (S' := [.int (zi 3), .ref x]) rfl ?_
    refine gs_newr 13 rfl (by decide) rfl sS375.1 (Nat.le_of_lt (Nat.lt_of_le_of_lt (gJ.cell sS375.1 t350 rfl).1 (gJ.cell sS375.1 t350 rfl).2.1)) (by omega) (by omega) rfl rfl (by show (3 : Int) ≤ _; omega) (by show _ ≤ (3 : Int); omega) (fun _ _ => gos_i (by decide) (by decide)) (fun ty389 h390 c391 g392 tc391 lc391 nc391 mc391 ec391 dc391 uc391 => ?_)
    have gac391 : h.1 ≤ c391 := by have h8 := G374.2.1; have h9 := sS375.2.1; omega
    have uq393 := uc391 uq343 (Or.inr (gNo.sub (by decide +kernel) pr370))
    have G394 : gSg [1, 2, 3, 4, 5, 6, 7, 8, 9, 10, 11, 12, 13, 14, 15, 16, 17, 18, 19, 20, 21, 22, 23, 24, 25, 26, 27, 28, 29, 30, 31, 32, 33, 34, 35, 36, 37, 38, 39, 40, 41, 42, 200] [x] [8999, 10999, 31999] ty h ty389 h390 := gSg.tr (gSg.ss G374 sS375 (by decide)) g392 (by decide) (by decide) (fun x hx => by cases hx)
    have rw395 := gSg.raw g392 rf376 (fun w => by cases w)
    have rf396 := (rw395.2.2.1.trans kh372)
    have rf397 := (rw395.2.2.2.trans rf377)
    have dd398 := gSg.rawd (ci := 12) (ps := [26, 25, 15, 14, 13, 12, 11, 10, 9, 4, 2]) g392 rf376 (fun w => by cases w) t349 (by decide) dd378
    have t399 : ty389 x = 200 := rw395.1.trans t349
    have t400 : ty389 c3 = 2 := gSg.typ g392 sS375.1 t350 rTk_2
    have t401 : ty389 c23 = 3 := gSg.typ g392 sS375.1 t351 rTk_3
    have t402 : ty389 c46 = 4 := gSg.typ g392 sS375.1 t352 rTk_4
    have t403 : ty389 c72 = 5 := gSg.typ g392 sS375.1 t353 rTk_5
    have t404 : ty389 c101 = 6 := gSg.typ g392 sS375.1 t354 rTk_6
    have t405 : ty389 c133 = 7 := gSg.typ g392 sS375.1 t355 rTk_7
    have t406 : ty389 c171 = 8 := gSg.typ g392 sS375.1 t356 rTk_8
    have t407 : ty389 c209 = 9 := gSg.typ g392 sS375.1 t357 rTk_9
    have t408 : ty389 c250 = 10 := gSg.typ g392 sS375.1 t358 rTk_10
    have t409 : ty389 c294 = 11 := gSg.typ g392 sS375.1 t359 rTk_11
    have t410 : ty389 c341 = 12 := gSg.typ g392 sS375.1 tc341 rTk_12
    have s411 := gSg.rawat g392 rf376 (fun w => by cases w) t349 (by decide) s379
    have s412 := gSg.rawat g392 rf376 (fun w => by cases w) t349 (by decide) s380
    have s413 := gSg.rawat g392 rf376 (fun w => by cases w) t349 (by decide) s381
    have s414 := gSg.rawat g392 rf376 (fun w => by cases w) t349 (by decide) s382
    have s415 := gSg.rawat g392 rf376 (fun w => by cases w) t349 (by decide) s383
    have s416 := gSg.rawat g392 rf376 (fun w => by cases w) t349 (by decide) s384
    have s417 := gSg.rawat g392 rf376 (fun w => by cases w) t349 (by decide) s385
    have s418 := gSg.rawat g392 rf376 (fun w => by cases w) t349 (by decide) s386
    have s419 := gSg.rawat g392 rf376 (fun w => by cases w) t349 (by decide) s387
    have s420 := gSg.rawat g392 rf376 (fun w => by cases w) t349 (by decide) s388
    have s421 := gSg.rawat g392 rf376 (fun w => by cases w) t349 (by decide) eh372
    have pr422 : gNo [1, 14, 15, 16, 17, 18, 19, 20, 21, 22, 23, 24, 25, 26, 27, 28, 29, 30, 31, 32, 33, 34, 35, 36, 37, 38, 39, 40, 41, 42] ty389 := gNo.gr g392 (by decide +kernel) (gNo.sub (by decide +kernel) pr370)
    have sS423 : gSs rT 1027 ty389 [8999, 10999, 31999] h390 h390 := gSs.rf g392.1
    clear G374 dd378 pr370 rf376 rf377 s379 s380 s381 s382 s383 s384 s385 s386 s387 s388 sS375 t349 t350 t351 t352 t353 t354 t355 t356 t357 t358 t359 uq343
    refine gs_rput rfl (by decide) rfl sS423.1 t399 nx rw395.2.1 rf396 rfl (Or.inr rfl) (fun h424 g425 nh424 mh424 kh424 zh424 eh424 fh424 => ?_)
    have G426 : gSg [1, 2, 3, 4, 5, 6, 7, 8, 9, 10, 11, 12, 13, 14, 15, 16, 17, 18, 19, 20, 21, 22, 23, 24, 25, 26, 27, 28, 29, 30, 31, 32, 33, 34, 35, 36, 37, 38, 39, 40, 41, 42, 200] [x] [8999, 10999, 31999] ty h ty389 h424 := gSg.tr (gSg.ss G394 sS423 (by decide)) g425 (by decide) (by decide) (fun x hx => Or.inr hx)
    have sS427 : gSs rT 1027 ty389 [8999, 10999, 31999] h424 h424 := gSs.rf g425.1
    have rf428 := Nat.lt_of_lt_of_eq rw395.2.1 nh424.symm
    have rf429 := zh424.trans rf397
    have dd430 : ∀ k, ¬ k ∈ ([27, 26, 25, 15, 14, 13, 12, 11, 10, 9, 4, 2] : List Nat) → h424.2.2.2.2 x k = defaultValue (gGG.2.1 12 k) := raw_dp fh424 dd398
    have s431 := (fh424 2 (by decide)).trans s411
    have s432 := (fh424 4 (by decide)).trans s412
    have s433 := (fh424 9 (by decide)).trans s413
    have s434 := (fh424 10 (by decide)).trans s414
    have s435 := (fh424 11 (by decide)).trans s415
    have s436 := (fh424 12 (by decide)).trans s416
    have s437 := (fh424 13 (by decide)).trans s417
    have s438 := (fh424 14 (by decide)).trans s418
    have s439 := (fh424 15 (by decide)).trans s419
    have s440 := (fh424 25 (by decide)).trans s420
    have s441 := (fh424 26 (by decide)).trans s421
    clear G394 dd398 rf396 rf397 rw395 s411 s412 s413 s414 s415 s416 s417 s418 s419 s420 s421 sS423
    have lp442 := cmlp442 d hJ x nx c3 c23 c46 c72 c101 c133 c171 c209 c250 c294 c341 c391
    have G3576 : gSg [1, 2, 3, 4, 5, 6, 7, 8, 9, 10, 11, 12, 13, 14, 15, 16, 17, 18, 19, 20, 21, 22, 23, 24, 25, 26, 27, 28, 29, 30, 31, 32, 33, 34, 35, 36, 37, 38, 39, 40, 41, 42, 200] [x] [8999, 10999, 31999] ty h ty389 h424 := gSg.ss G426 sS427 (by decide)
    exact gz_wk (lp442 _ ty389 h424  (Nat.lt_succ_self _) G3576 uq393 t399 t400 t401 t402 t403 t404 t405 t406 t407 t408 t409 t410 tc391 (by omega) (by omega) s431 s432 s433 s434 s435 s436 s437 s438 s439 s440 s441 eh424 pr422 rf428 kh424 rf429 dd430) (gLw.s (gLw.n (gLw.n (gLw.n (gLw.n gLw.z)))))
set_option maxRecDepth 20000 in
set_option maxHeartbeats 4000000 in
theorem ct_Model (d : Nat) {ty : Nat → Nat} {h : gH} (hJ : gJ rT 1027 ty h) (x : Nat) (tx : ty x = 200) (nx : 1027 ≤ x) (lx : x < h.1) (kx : h.2.2.1 x = some (.inr 12)) (zx : h.2.2.2.1 x = 0) (dx : ∀ k, h.2.2.2.2 x k = defaultValue (gGG.2.1 12 k)) (no0 : gNo [1, 2, 3, 4, 5, 6, 7, 8, 9, 10, 11, 12, 13, 14, 15, 16, 17, 18, 19, 20, 21, 22, 23, 24, 25, 26, 27, 28, 29, 30, 31, 32, 33, 34, 35, 36, 37, 38, 39, 40, 41, 42] ty) (uq : gUq ty) : gz gPP gGG gcn (d + 1) gt130 0 (gent [.ref x] 5) [] h (fun q _ => ∃ ty9 : Nat → Nat, gSg [1, 2, 3, 4, 5, 6, 7, 8, 9, 10, 11, 12, 13, 14, 15, 16, 17, 18, 19, 20, 21, 22, 23, 24, 25, 26, 27, 28, 29, 30, 31, 32, 33, 34, 35, 36, 37, 38, 39, 40, 41, 42, 200] [x] [8999, 10999, 31999] ty h ty9 q.2.2 ∧ ∃ ip n1 cw ch iv1 : Int, ty9 x = 1 ∧ gfin gt130 q.1 q.2.1 = some none ∧ q.2.2.2.2.2.2 x 16 = .int (zi ip) ∧ 0 ≤ ip ∧ ip ≤ 1 ∧ q.2.2.2.2.2.2 x 53 = .int (zi n1) ∧ 0 ≤ n1 ∧ n1 ≤ 10 ∧ q.2.2.2.2.2.2 x 50 = .int (zi cw) ∧ 0 ≤ cw ∧ cw ≤ 32 ∧ q.2.2.2.2.2.2 x 51 = .int (zi ch) ∧ 0 ≤ ch ∧ ch ≤ 32 ∧ q.2.2.2.2.2.2 x 52 = .int (zi iv1) ∧ 0 ≤ iv1 ∧ iv1 ≤ 100 ∧ (ip = 0) ∧ (n1 = 0) ∧ (cw = 0) ∧ (ch = 0) ∧ (iv1 = 0) ∧ ((q.2.2.1 : Int) = h.1 + 41) ∧ ((q.2.2.2.1 : Int) = h.2.1 + 88652) ∧ (gTs ty9 0 q.2.2) ∧ (gOy ty9 31 (-1) 64 q.2.2) ∧ gUq ty9) := by
  have hS : gSs rT 1027 ty [8999, 10999, 31999] h h := gSs.rf hJ
  have G0 : gSg [1, 2, 3, 4, 5, 6, 7, 8, 9, 10, 11, 12, 13, 14, 15, 16, 17, 18, 19, 20, 21, 22, 23, 24, 25, 26, 27, 28, 29, 30, 31, 32, 33, 34, 35, 36, 37, 38, 39, 40, 41, 42, 200] [x] [8999, 10999, 31999] ty h ty h := gSg.rf hJ (fun x hx => by rw [List.mem_singleton.mp hx, tx]; rfl)
  refine gz_s 1 (pc' := 1) (L' := [some (.ref x), none, none, none, none]) (S' := [.ref x]) rfl ?_
  refine gz_obj rfl (by decide) (by omega) rfl (by decide) ?_
  refine gz_s 2 (pc' := 8) (L' := [some (.ref x), none, none, none, none]) (S' := [.int (zi 2000), .ref x]) rfl ?_
  refine gs_newr 2 rfl (by decide) rfl hS.1 (Nat.le_of_lt (Nat.lt_of_le_of_lt nx lx)) (by omega) (by omega) rfl rfl (by show (2000 : Int) ≤ _; omega) (by show _ ≤ (2000 : Int); omega) (fun _ _ => gos_i (by decide) (by decide)) (fun ty1 h2 c3 g4 tc3 lc3 nc3 mc3 ec3 dc3 uc3 => ?_)
  have gac3 : h.1 ≤ c3 := by have h8 := G0.2.1; have h9 := hS.2.1; omega
  have uq5 := uc3 uq (Or.inr (gNo.sub (by decide +kernel) no0))
  have G6 : gSg [1, 2, 3, 4, 5, 6, 7, 8, 9, 10, 11, 12, 13, 14, 15, 16, 17, 18, 19, 20, 21, 22, 23, 24, 25, 26, 27, 28, 29, 30, 31, 32, 33, 34, 35, 36, 37, 38, 39, 40, 41, 42, 200] [x] [8999, 10999, 31999] ty h ty1 h2 := gSg.tr (gSg.ss G0 hS (by decide)) g4 (by decide) (by decide) (fun x hx => by cases hx)
  have rw7 := gSg.raw g4 lx (fun w => by cases w)
  have rf8 := (rw7.2.2.1.trans kx)
  have rf9 := (rw7.2.2.2.trans zx)
  have dd10 := gSg.rawd (ci := 12) (ps := []) g4 lx (fun w => by cases w) tx (by decide) (fun k _ => dx k)
  have t11 : ty1 x = 200 := rw7.1.trans tx
  have pr12 : gNo [1, 3, 4, 5, 6, 7, 8, 9, 10, 11, 12, 13, 14, 15, 16, 17, 18, 19, 20, 21, 22, 23, 24, 25, 26, 27, 28, 29, 30, 31, 32, 33, 34, 35, 36, 37, 38, 39, 40, 41, 42] ty1 := gNo.gr g4 (by decide +kernel) (gNo.sub (by decide +kernel) no0)
  have sS13 : gSs rT 1027 ty1 [8999, 10999, 31999] h2 h2 := gSs.rf g4.1
  refine gs_rput rfl (by decide) rfl sS13.1 t11 nx rw7.2.1 rf8 rfl (Or.inr rfl) (fun h14 g15 nh14 mh14 kh14 zh14 eh14 fh14 => ?_)
  have G16 : gSg [1, 2, 3, 4, 5, 6, 7, 8, 9, 10, 11, 12, 13, 14, 15, 16, 17, 18, 19, 20, 21, 22, 23, 24, 25, 26, 27, 28, 29, 30, 31, 32, 33, 34, 35, 36, 37, 38, 39, 40, 41, 42, 200] [x] [8999, 10999, 31999] ty h ty1 h14 := gSg.tr (gSg.ss G6 sS13 (by decide)) g15 (by decide) (by decide) (fun x hx => Or.inr hx)
  have sS17 : gSs rT 1027 ty1 [8999, 10999, 31999] h14 h14 := gSs.rf g15.1
  have rf18 := Nat.lt_of_lt_of_eq rw7.2.1 nh14.symm
  have rf19 := zh14.trans rf9
  have dd20 : ∀ k, ¬ k ∈ ([2] : List Nat) → h14.2.2.2.2 x k = defaultValue (gGG.2.1 12 k) := raw_dp fh14 dd10
  clear G6 dd10 rf8 rf9 rw7 sS13
  refine gz_s 2 (pc' := 17) (L' := [some (.ref x), none, none, none, none]) (S' := [.int (zi 2000), .ref x]) rfl ?_
  refine gs_newr 3 rfl (by decide) rfl sS17.1 (Nat.le_of_lt (Nat.lt_of_le_of_lt (gJ.cell sS17.1 tc3 rTk_2).1 (gJ.cell sS17.1 tc3 rTk_2).2.1)) (by omega) (by omega) rfl rfl (by show (2000 : Int) ≤ _; omega) (by show _ ≤ (2000 : Int); omega) (fun _ _ => gos_i (by decide) (by decide)) (fun ty21 h22 c23 g24 tc23 lc23 nc23 mc23 ec23 dc23 uc23 => ?_)
  have gac23 : h.1 ≤ c23 := by have h8 := G16.2.1; have h9 := sS17.2.1; omega
  have uq25 := uc23 uq5 (Or.inr (gNo.sub (by decide +kernel) pr12))
  have G26 : gSg [1, 2, 3, 4, 5, 6, 7, 8, 9, 10, 11, 12, 13, 14, 15, 16, 17, 18, 19, 20, 21, 22, 23, 24, 25, 26, 27, 28, 29, 30, 31, 32, 33, 34, 35, 36, 37, 38, 39, 40, 41, 42, 200] [x] [8999, 10999, 31999] ty h ty21 h22 := gSg.tr (gSg.ss G16 sS17 (by decide)) g24 (by decide) (by decide) (fun x hx => by cases hx)
  have rw27 := gSg.raw g24 rf18 (fun w => by cases w)
  have rf28 := (rw27.2.2.1.trans kh14)
  have rf29 := (rw27.2.2.2.trans rf19)
  have dd30 := gSg.rawd (ci := 12) (ps := [2]) g24 rf18 (fun w => by cases w) t11 (by decide) dd20
  have t31 : ty21 x = 200 := rw27.1.trans t11
  have t32 : ty21 c3 = 2 := gSg.typ g24 sS17.1 tc3 rTk_2
  have s33 := gSg.rawat g24 rf18 (fun w => by cases w) t11 (by decide) eh14
  have pr34 : gNo [1, 4, 5, 6, 7, 8, 9, 10, 11, 12, 13, 14, 15, 16, 17, 18, 19, 20, 21, 22, 23, 24, 25, 26, 27, 28, 29, 30, 31, 32, 33, 34, 35, 36, 37, 38, 39, 40, 41, 42] ty21 := gNo.gr g24 (by decide +kernel) (gNo.sub (by decide +kernel) pr12)
  have sS35 : gSs rT 1027 ty21 [8999, 10999, 31999] h22 h22 := gSs.rf g24.1
  clear G16 dd20 pr12 rf18 rf19 sS17 t11 uq5
  refine gs_rput rfl (by decide) rfl sS35.1 t31 nx rw27.2.1 rf28 rfl (Or.inr rfl) (fun h36 g37 nh36 mh36 kh36 zh36 eh36 fh36 => ?_)
  have G38 : gSg [1, 2, 3, 4, 5, 6, 7, 8, 9, 10, 11, 12, 13, 14, 15, 16, 17, 18, 19, 20, 21, 22, 23, 24, 25, 26, 27, 28, 29, 30, 31, 32, 33, 34, 35, 36, 37, 38, 39, 40, 41, 42, 200] [x] [8999, 10999, 31999] ty h ty21 h36 := gSg.tr (gSg.ss G26 sS35 (by decide)) g37 (by decide) (by decide) (fun x hx => Or.inr hx)
  have sS39 : gSs rT 1027 ty21 [8999, 10999, 31999] h36 h36 := gSs.rf g37.1
  have rf40 := Nat.lt_of_lt_of_eq rw27.2.1 nh36.symm
  have rf41 := zh36.trans rf29
  have dd42 : ∀ k, ¬ k ∈ ([4, 2] : List Nat) → h36.2.2.2.2 x k = defaultValue (gGG.2.1 12 k) := raw_dp fh36 dd30
  have s43 := (fh36 2 (by decide)).trans s33
  clear G26 dd30 rf28 rf29 rw27 s33 sS35
  refine gz_s 2 (pc' := 25) (L' := [some (.ref x), none, none, none, none]) (S' := [.int (zi 8), .ref x]) rfl ?_
  refine gs_newr 4 rfl (by decide) rfl sS39.1 (Nat.le_of_lt (Nat.lt_of_le_of_lt (gJ.cell sS39.1 t32 rfl).1 (gJ.cell sS39.1 t32 rfl).2.1)) (by omega) (by omega) rfl rfl (by show (8 : Int) ≤ _; omega) (by show _ ≤ (8 : Int); omega) (fun _ _ => gos_i (by decide) (by decide)) (fun ty44 h45 c46 g47 tc46 lc46 nc46 mc46 ec46 dc46 uc46 => ?_)
  have gac46 : h.1 ≤ c46 := by have h8 := G38.2.1; have h9 := sS39.2.1; omega
  have uq48 := uc46 uq25 (Or.inr (gNo.sub (by decide +kernel) pr34))
  have G49 : gSg [1, 2, 3, 4, 5, 6, 7, 8, 9, 10, 11, 12, 13, 14, 15, 16, 17, 18, 19, 20, 21, 22, 23, 24, 25, 26, 27, 28, 29, 30, 31, 32, 33, 34, 35, 36, 37, 38, 39, 40, 41, 42, 200] [x] [8999, 10999, 31999] ty h ty44 h45 := gSg.tr (gSg.ss G38 sS39 (by decide)) g47 (by decide) (by decide) (fun x hx => by cases hx)
  have rw50 := gSg.raw g47 rf40 (fun w => by cases w)
  have rf51 := (rw50.2.2.1.trans kh36)
  have rf52 := (rw50.2.2.2.trans rf41)
  have dd53 := gSg.rawd (ci := 12) (ps := [4, 2]) g47 rf40 (fun w => by cases w) t31 (by decide) dd42
  have t54 : ty44 x = 200 := rw50.1.trans t31
  have t55 : ty44 c3 = 2 := gSg.typ g47 sS39.1 t32 rTk_2
  have t56 : ty44 c23 = 3 := gSg.typ g47 sS39.1 tc23 rTk_3
  have s57 := gSg.rawat g47 rf40 (fun w => by cases w) t31 (by decide) s43
  have s58 := gSg.rawat g47 rf40 (fun w => by cases w) t31 (by decide) eh36
  have pr59 : gNo [1, 5, 6, 7, 8, 9, 10, 11, 12, 13, 14, 15, 16, 17, 18, 19, 20, 21, 22, 23, 24, 25, 26, 27, 28, 29, 30, 31, 32, 33, 34, 35, 36, 37, 38, 39, 40, 41, 42] ty44 := gNo.gr g47 (by decide +kernel) (gNo.sub (by decide +kernel) pr34)
  have sS60 : gSs rT 1027 ty44 [8999, 10999, 31999] h45 h45 := gSs.rf g47.1
  clear G38 dd42 pr34 rf40 rf41 s43 sS39 t31 t32 uq25
  refine gs_rput rfl (by decide) rfl sS60.1 t54 nx rw50.2.1 rf51 rfl (Or.inr rfl) (fun h61 g62 nh61 mh61 kh61 zh61 eh61 fh61 => ?_)
  have G63 : gSg [1, 2, 3, 4, 5, 6, 7, 8, 9, 10, 11, 12, 13, 14, 15, 16, 17, 18, 19, 20, 21, 22, 23, 24, 25, 26, 27, 28, 29, 30, 31, 32, 33, 34, 35, 36, 37, 38, 39, 40, 41, 42, 200] [x] [8999, 10999, 31999] ty h ty44 h61 := gSg.tr (gSg.ss G49 sS60 (by decide)) g62 (by decide) (by decide) (fun x hx => Or.inr hx)
  have sS64 : gSs rT 1027 ty44 [8999, 10999, 31999] h61 h61 := gSs.rf g62.1
  have rf65 := Nat.lt_of_lt_of_eq rw50.2.1 nh61.symm
  have rf66 := zh61.trans rf52
  have dd67 : ∀ k, ¬ k ∈ ([9, 4, 2] : List Nat) → h61.2.2.2.2 x k = defaultValue (gGG.2.1 12 k) := raw_dp fh61 dd53
  have s68 := (fh61 2 (by decide)).trans s57
  have s69 := (fh61 4 (by decide)).trans s58
  clear G49 dd53 rf51 rf52 rw50 s57 s58 sS60
  refine gz_s 2 (pc' := 34) (L' := [some (.ref x), none, none, none, none]) (S' := [.int (zi 2056), .ref x]) rfl ?_
  refine gs_newr 5 rfl (by decide) rfl sS64.1 (Nat.le_of_lt (Nat.lt_of_le_of_lt (gJ.cell sS64.1 t55 rfl).1 (gJ.cell sS64.1 t55 rfl).2.1)) (by omega) (by omega) rfl rfl (by show (2056 : Int) ≤ _; omega) (by show _ ≤ (2056 : Int); omega) (fun _ _ => gos_i (by decide) (by decide)) (fun ty70 h71 c72 g73 tc72 lc72 nc72 mc72 ec72 dc72 uc72 => ?_)
  have gac72 : h.1 ≤ c72 := by have h8 := G63.2.1; have h9 := sS64.2.1; omega
  have uq74 := uc72 uq48 (Or.inr (gNo.sub (by decide +kernel) pr59))
  have G75 : gSg [1, 2, 3, 4, 5, 6, 7, 8, 9, 10, 11, 12, 13, 14, 15, 16, 17, 18, 19, 20, 21, 22, 23, 24, 25, 26, 27, 28, 29, 30, 31, 32, 33, 34, 35, 36, 37, 38, 39, 40, 41, 42, 200] [x] [8999, 10999, 31999] ty h ty70 h71 := gSg.tr (gSg.ss G63 sS64 (by decide)) g73 (by decide) (by decide) (fun x hx => by cases hx)
  have rw76 := gSg.raw g73 rf65 (fun w => by cases w)
  have rf77 := (rw76.2.2.1.trans kh61)
  have rf78 := (rw76.2.2.2.trans rf66)
  have dd79 := gSg.rawd (ci := 12) (ps := [9, 4, 2]) g73 rf65 (fun w => by cases w) t54 (by decide) dd67
  have t80 : ty70 x = 200 := rw76.1.trans t54
  have t81 : ty70 c3 = 2 := gSg.typ g73 sS64.1 t55 rTk_2
  have t82 : ty70 c23 = 3 := gSg.typ g73 sS64.1 t56 rTk_3
  have t83 : ty70 c46 = 4 := gSg.typ g73 sS64.1 tc46 rTk_4
  have s84 := gSg.rawat g73 rf65 (fun w => by cases w) t54 (by decide) s68
  have s85 := gSg.rawat g73 rf65 (fun w => by cases w) t54 (by decide) s69
  have s86 := gSg.rawat g73 rf65 (fun w => by cases w) t54 (by decide) eh61
  have pr87 : gNo [1, 6, 7, 8, 9, 10, 11, 12, 13, 14, 15, 16, 17, 18, 19, 20, 21, 22, 23, 24, 25, 26, 27, 28, 29, 30, 31, 32, 33, 34, 35, 36, 37, 38, 39, 40, 41, 42] ty70 := gNo.gr g73 (by decide +kernel) (gNo.sub (by decide +kernel) pr59)
  have sS88 : gSs rT 1027 ty70 [8999, 10999, 31999] h71 h71 := gSs.rf g73.1
  clear G63 dd67 pr59 rf65 rf66 s68 s69 sS64 t54 t55 t56 uq48
  refine gs_rput rfl (by decide) rfl sS88.1 t80 nx rw76.2.1 rf77 rfl (Or.inr rfl) (fun h89 g90 nh89 mh89 kh89 zh89 eh89 fh89 => ?_)
  have G91 : gSg [1, 2, 3, 4, 5, 6, 7, 8, 9, 10, 11, 12, 13, 14, 15, 16, 17, 18, 19, 20, 21, 22, 23, 24, 25, 26, 27, 28, 29, 30, 31, 32, 33, 34, 35, 36, 37, 38, 39, 40, 41, 42, 200] [x] [8999, 10999, 31999] ty h ty70 h89 := gSg.tr (gSg.ss G75 sS88 (by decide)) g90 (by decide) (by decide) (fun x hx => Or.inr hx)
  have sS92 : gSs rT 1027 ty70 [8999, 10999, 31999] h89 h89 := gSs.rf g90.1
  have rf93 := Nat.lt_of_lt_of_eq rw76.2.1 nh89.symm
  have rf94 := zh89.trans rf78
  have dd95 : ∀ k, ¬ k ∈ ([10, 9, 4, 2] : List Nat) → h89.2.2.2.2 x k = defaultValue (gGG.2.1 12 k) := raw_dp fh89 dd79
  have s96 := (fh89 2 (by decide)).trans s84
  have s97 := (fh89 4 (by decide)).trans s85
  have s98 := (fh89 9 (by decide)).trans s86
  clear G75 dd79 rf77 rf78 rw76 s84 s85 s86 sS88
  refine gz_s 2 (pc' := 43) (L' := [some (.ref x), none, none, none, none]) (S' := [.int (zi 2056), .ref x]) rfl ?_
  refine gs_newr 6 rfl (by decide) rfl sS92.1 (Nat.le_of_lt (Nat.lt_of_le_of_lt (gJ.cell sS92.1 t81 rfl).1 (gJ.cell sS92.1 t81 rfl).2.1)) (by omega) (by omega) rfl rfl (by show (2056 : Int) ≤ _; omega) (by show _ ≤ (2056 : Int); omega) (fun _ _ => gos_i (by decide) (by decide)) (fun ty99 h100 c101 g102 tc101 lc101 nc101 mc101 ec101 dc101 uc101 => ?_)
  have gac101 : h.1 ≤ c101 := by have h8 := G91.2.1; have h9 := sS92.2.1; omega
  have uq103 := uc101 uq74 (Or.inr (gNo.sub (by decide +kernel) pr87))
  have G104 : gSg [1, 2, 3, 4, 5, 6, 7, 8, 9, 10, 11, 12, 13, 14, 15, 16, 17, 18, 19, 20, 21, 22, 23, 24, 25, 26, 27, 28, 29, 30, 31, 32, 33, 34, 35, 36, 37, 38, 39, 40, 41, 42, 200] [x] [8999, 10999, 31999] ty h ty99 h100 := gSg.tr (gSg.ss G91 sS92 (by decide)) g102 (by decide) (by decide) (fun x hx => by cases hx)
  have rw105 := gSg.raw g102 rf93 (fun w => by cases w)
  have rf106 := (rw105.2.2.1.trans kh89)
  have rf107 := (rw105.2.2.2.trans rf94)
  have dd108 := gSg.rawd (ci := 12) (ps := [10, 9, 4, 2]) g102 rf93 (fun w => by cases w) t80 (by decide) dd95
  have t109 : ty99 x = 200 := rw105.1.trans t80
  have t110 : ty99 c3 = 2 := gSg.typ g102 sS92.1 t81 rTk_2
  have t111 : ty99 c23 = 3 := gSg.typ g102 sS92.1 t82 rTk_3
  have t112 : ty99 c46 = 4 := gSg.typ g102 sS92.1 t83 rTk_4
  have t113 : ty99 c72 = 5 := gSg.typ g102 sS92.1 tc72 rTk_5
  have s114 := gSg.rawat g102 rf93 (fun w => by cases w) t80 (by decide) s96
  have s115 := gSg.rawat g102 rf93 (fun w => by cases w) t80 (by decide) s97
  have s116 := gSg.rawat g102 rf93 (fun w => by cases w) t80 (by decide) s98
  have s117 := gSg.rawat g102 rf93 (fun w => by cases w) t80 (by decide) eh89
  have pr118 : gNo [1, 7, 8, 9, 10, 11, 12, 13, 14, 15, 16, 17, 18, 19, 20, 21, 22, 23, 24, 25, 26, 27, 28, 29, 30, 31, 32, 33, 34, 35, 36, 37, 38, 39, 40, 41, 42] ty99 := gNo.gr g102 (by decide +kernel) (gNo.sub (by decide +kernel) pr87)
  have sS119 : gSs rT 1027 ty99 [8999, 10999, 31999] h100 h100 := gSs.rf g102.1
  clear G91 dd95 pr87 rf93 rf94 s96 s97 s98 sS92 t80 t81 t82 t83 uq74
  refine gs_rput rfl (by decide) rfl sS119.1 t109 nx rw105.2.1 rf106 rfl (Or.inr rfl) (fun h120 g121 nh120 mh120 kh120 zh120 eh120 fh120 => ?_)
  have G122 : gSg [1, 2, 3, 4, 5, 6, 7, 8, 9, 10, 11, 12, 13, 14, 15, 16, 17, 18, 19, 20, 21, 22, 23, 24, 25, 26, 27, 28, 29, 30, 31, 32, 33, 34, 35, 36, 37, 38, 39, 40, 41, 42, 200] [x] [8999, 10999, 31999] ty h ty99 h120 := gSg.tr (gSg.ss G104 sS119 (by decide)) g121 (by decide) (by decide) (fun x hx => Or.inr hx)
  have sS123 : gSs rT 1027 ty99 [8999, 10999, 31999] h120 h120 := gSs.rf g121.1
  have rf124 := Nat.lt_of_lt_of_eq rw105.2.1 nh120.symm
  have rf125 := zh120.trans rf107
  have dd126 : ∀ k, ¬ k ∈ ([11, 10, 9, 4, 2] : List Nat) → h120.2.2.2.2 x k = defaultValue (gGG.2.1 12 k) := raw_dp fh120 dd108
  have s127 := (fh120 2 (by decide)).trans s114
  have s128 := (fh120 4 (by decide)).trans s115
  have s129 := (fh120 9 (by decide)).trans s116
  have s130 := (fh120 10 (by decide)).trans s117
  clear G104 dd108 rf106 rf107 rw105 s114 s115 s116 s117 sS119
  refine gz_s 2 (pc' := 52) (L' := [some (.ref x), none, none, none, none]) (S' := [.int (zi 2056), .ref x]) rfl ?_
  refine gs_newr 7 rfl (by decide) rfl sS123.1 (Nat.le_of_lt (Nat.lt_of_le_of_lt (gJ.cell sS123.1 t110 rfl).1 (gJ.cell sS123.1 t110 rfl).2.1)) (by omega) (by omega) rfl rfl (by show (2056 : Int) ≤ _; omega) (by show _ ≤ (2056 : Int); omega) (fun _ _ => gos_i (by decide) (by decide)) (fun ty131 h132 c133 g134 tc133 lc133 nc133 mc133 ec133 dc133 uc133 => ?_)
  have gac133 : h.1 ≤ c133 := by have h8 := G122.2.1; have h9 := sS123.2.1; omega
  have uq135 := uc133 uq103 (Or.inr (gNo.sub (by decide +kernel) pr118))
  have G136 : gSg [1, 2, 3, 4, 5, 6, 7, 8, 9, 10, 11, 12, 13, 14, 15, 16, 17, 18, 19, 20, 21, 22, 23, 24, 25, 26, 27, 28, 29, 30, 31, 32, 33, 34, 35, 36, 37, 38, 39, 40, 41, 42, 200] [x] [8999, 10999, 31999] ty h ty131 h132 := gSg.tr (gSg.ss G122 sS123 (by decide)) g134 (by decide) (by decide) (fun x hx => by cases hx)
  have rw137 := gSg.raw g134 rf124 (fun w => by cases w)
  have rf138 := (rw137.2.2.1.trans kh120)
  have rf139 := (rw137.2.2.2.trans rf125)
  have dd140 := gSg.rawd (ci := 12) (ps := [11, 10, 9, 4, 2]) g134 rf124 (fun w => by cases w) t109 (by decide) dd126
  have t141 : ty131 x = 200 := rw137.1.trans t109
  have t142 : ty131 c3 = 2 := gSg.typ g134 sS123.1 t110 rTk_2
  have t143 : ty131 c23 = 3 := gSg.typ g134 sS123.1 t111 rTk_3
  have t144 : ty131 c46 = 4 := gSg.typ g134 sS123.1 t112 rTk_4
  have t145 : ty131 c72 = 5 := gSg.typ g134 sS123.1 t113 rTk_5
  have t146 : ty131 c101 = 6 := gSg.typ g134 sS123.1 tc101 rTk_6
  have s147 := gSg.rawat g134 rf124 (fun w => by cases w) t109 (by decide) s127
  have s148 := gSg.rawat g134 rf124 (fun w => by cases w) t109 (by decide) s128
  have s149 := gSg.rawat g134 rf124 (fun w => by cases w) t109 (by decide) s129
  have s150 := gSg.rawat g134 rf124 (fun w => by cases w) t109 (by decide) s130
  have s151 := gSg.rawat g134 rf124 (fun w => by cases w) t109 (by decide) eh120
  have pr152 : gNo [1, 8, 9, 10, 11, 12, 13, 14, 15, 16, 17, 18, 19, 20, 21, 22, 23, 24, 25, 26, 27, 28, 29, 30, 31, 32, 33, 34, 35, 36, 37, 38, 39, 40, 41, 42] ty131 := gNo.gr g134 (by decide +kernel) (gNo.sub (by decide +kernel) pr118)
  have sS153 : gSs rT 1027 ty131 [8999, 10999, 31999] h132 h132 := gSs.rf g134.1
  clear G122 dd126 pr118 rf124 rf125 s127 s128 s129 s130 sS123 t109 t110 t111 t112 t113 uq103
  refine gs_rput rfl (by decide) rfl sS153.1 t141 nx rw137.2.1 rf138 rfl (Or.inr rfl) (fun h154 g155 nh154 mh154 kh154 zh154 eh154 fh154 => ?_)
  have G156 : gSg [1, 2, 3, 4, 5, 6, 7, 8, 9, 10, 11, 12, 13, 14, 15, 16, 17, 18, 19, 20, 21, 22, 23, 24, 25, 26, 27, 28, 29, 30, 31, 32, 33, 34, 35, 36, 37, 38, 39, 40, 41, 42, 200] [x] [8999, 10999, 31999] ty h ty131 h154 := gSg.tr (gSg.ss G136 sS153 (by decide)) g155 (by decide) (by decide) (fun x hx => Or.inr hx)
  have sS157 : gSs rT 1027 ty131 [8999, 10999, 31999] h154 h154 := gSs.rf g155.1
  have rf158 := Nat.lt_of_lt_of_eq rw137.2.1 nh154.symm
  have rf159 := zh154.trans rf139
  have dd160 : ∀ k, ¬ k ∈ ([12, 11, 10, 9, 4, 2] : List Nat) → h154.2.2.2.2 x k = defaultValue (gGG.2.1 12 k) := raw_dp fh154 dd140
  have s161 := (fh154 2 (by decide)).trans s147
  have s162 := (fh154 4 (by decide)).trans s148
  have s163 := (fh154 9 (by decide)).trans s149
  have s164 := (fh154 10 (by decide)).trans s150
  have s165 := (fh154 11 (by decide)).trans s151
  clear G136 dd140 rf138 rf139 rw137 s147 s148 s149 s150 s151 sS153
  have lp166 := cmlp166 d hJ x nx c3 c23 c46 c72 c101 c133
  have G3577 : gSg [1, 2, 3, 4, 5, 6, 7, 8, 9, 10, 11, 12, 13, 14, 15, 16, 17, 18, 19, 20, 21, 22, 23, 24, 25, 26, 27, 28, 29, 30, 31, 32, 33, 34, 35, 36, 37, 38, 39, 40, 41, 42, 200] [x] [8999, 10999, 31999] ty h ty131 h154 := gSg.ss G156 sS157 (by decide)
  exact gz_wk (lp166 _ ty131 h154  (Nat.lt_succ_self _) G3577 uq135 t141 t142 t143 t144 t145 t146 tc133 (by omega) (by omega) s161 s162 s163 s164 s165 eh154 pr152 rf158 kh154 rf159 dd160) (gLw.s (gLw.n (gLw.n (gLw.n (gLw.n gLw.z)))))
