/-! ===== the reference is made (by program) ===== -/
def gzuL : List Int := [0, 1, 0, 0, 1, 2, 3, 2, 1, 0, 0, 1, 2, 3, 4, 5, 4, 3, 2, 1, 0, 0, 1, 2, 3, 4, 5, 6, 7, 6, 5, 4, 3, 2, 1, 0, 1, 2, 3, 4, 5, 6, 7, 7, 6, 5, 4, 3, 2, 3, 4, 5, 6, 7, 7, 6, 5, 4, 5, 6, 7, 7, 6, 7, 7]
def gzvL : List Int := [0, 0, 1, 2, 1, 0, 0, 1, 2, 3, 4, 3, 2, 1, 0, 0, 1, 2, 3, 4, 5, 6, 5, 4, 3, 2, 1, 0, 0, 1, 2, 3, 4, 5, 6, 7, 7, 6, 5, 4, 3, 2, 1, 2, 3, 4, 5, 6, 7, 7, 6, 5, 4, 3, 4, 5, 6, 7, 7, 6, 5, 6, 7, 7, 8]
def gzu (n : Nat) : Int := gzuL.getD n 0
def gzv (n : Nat) : Int := gzvL.getD n 0
theorem gzz0_0 : ∀ n : Fin 64, 0 ≤ gzu n.val := by decide +kernel
theorem gzz0_1 : ∀ n : Fin 64, gzu n.val ≤ 7 := by decide +kernel
theorem gzz0_2 : ∀ n : Fin 64, 0 ≤ gzv n.val := by decide +kernel
theorem gzz0_3 : ∀ n : Fin 64, gzv n.val ≤ 7 := by decide +kernel
theorem gzz0_4 : ∀ n : Fin 64, ((gzu n.val + gzv n.val) % 2 = 0 → gzu n.val = 7 → (gzu (n.val + 1) = gzu n.val ∧ gzv (n.val + 1) = gzv n.val + 1)) := by decide +kernel
theorem gzz0_5 : ∀ n : Fin 64, ((gzu n.val + gzv n.val) % 2 = 0 → ¬ gzu n.val = 7 → gzv n.val = 0 → (gzu (n.val + 1) = gzu n.val + 1 ∧ gzv (n.val + 1) = gzv n.val)) := by decide +kernel
theorem gzz0_6 : ∀ n : Fin 64, ((gzu n.val + gzv n.val) % 2 = 0 → ¬ gzu n.val = 7 → ¬ gzv n.val = 0 → (gzu (n.val + 1) = gzu n.val + 1 ∧ gzv (n.val + 1) = gzv n.val - 1)) := by decide +kernel
theorem gzz0_7 : ∀ n : Fin 64, (¬ (gzu n.val + gzv n.val) % 2 = 0 → gzv n.val = 7 → (gzu (n.val + 1) = gzu n.val + 1 ∧ gzv (n.val + 1) = gzv n.val)) := by decide +kernel
theorem gzz0_8 : ∀ n : Fin 64, (¬ (gzu n.val + gzv n.val) % 2 = 0 → ¬ gzv n.val = 7 → gzu n.val = 0 → (gzu (n.val + 1) = gzu n.val ∧ gzv (n.val + 1) = gzv n.val + 1)) := by decide +kernel
theorem gzz0_9 : ∀ n : Fin 64, (¬ (gzu n.val + gzv n.val) % 2 = 0 → ¬ gzv n.val = 7 → ¬ gzu n.val = 0 → (gzu (n.val + 1) = gzu n.val - 1 ∧ gzv (n.val + 1) = gzv n.val + 1)) := by decide +kernel
theorem gzz0 : ∀ n : Fin 64, 0 ≤ gzu n.val ∧ gzu n.val ≤ 7 ∧ 0 ≤ gzv n.val ∧ gzv n.val ≤ 7 ∧ ((gzu n.val + gzv n.val) % 2 = 0 → gzu n.val = 7 → (gzu (n.val + 1) = gzu n.val ∧ gzv (n.val + 1) = gzv n.val + 1)) ∧ ((gzu n.val + gzv n.val) % 2 = 0 → ¬ gzu n.val = 7 → gzv n.val = 0 → (gzu (n.val + 1) = gzu n.val + 1 ∧ gzv (n.val + 1) = gzv n.val)) ∧ ((gzu n.val + gzv n.val) % 2 = 0 → ¬ gzu n.val = 7 → ¬ gzv n.val = 0 → (gzu (n.val + 1) = gzu n.val + 1 ∧ gzv (n.val + 1) = gzv n.val - 1)) ∧ (¬ (gzu n.val + gzv n.val) % 2 = 0 → gzv n.val = 7 → (gzu (n.val + 1) = gzu n.val + 1 ∧ gzv (n.val + 1) = gzv n.val)) ∧ (¬ (gzu n.val + gzv n.val) % 2 = 0 → ¬ gzv n.val = 7 → gzu n.val = 0 → (gzu (n.val + 1) = gzu n.val ∧ gzv (n.val + 1) = gzv n.val + 1)) ∧ (¬ (gzu n.val + gzv n.val) % 2 = 0 → ¬ gzv n.val = 7 → ¬ gzu n.val = 0 → (gzu (n.val + 1) = gzu n.val - 1 ∧ gzv (n.val + 1) = gzv n.val + 1)) := fun n => ⟨gzz0_0 n, gzz0_1 n, gzz0_2 n, gzz0_3 n, gzz0_4 n, gzz0_5 n, gzz0_6 n, gzz0_7 n, gzz0_8 n, gzz0_9 n⟩
theorem gzz {i u v : Int} (h0 : 0 ≤ i) (h1 : i < 64) (eu : u = gzu i.toNat) (ev : v = gzv i.toNat) : (0 ≤ u ∧ u ≤ 7 ∧ 0 ≤ v ∧ v ≤ 7) ∧ ((u + v) % 2 = 0 → u = 7 → (gzu (i + 1).toNat = u ∧ gzv (i + 1).toNat = v + 1)) ∧ ((u + v) % 2 = 0 → ¬ u = 7 → v = 0 → (gzu (i + 1).toNat = u + 1 ∧ gzv (i + 1).toNat = v)) ∧ ((u + v) % 2 = 0 → ¬ u = 7 → ¬ v = 0 → (gzu (i + 1).toNat = u + 1 ∧ gzv (i + 1).toNat = v - 1)) ∧ (¬ (u + v) % 2 = 0 → v = 7 → (gzu (i + 1).toNat = u + 1 ∧ gzv (i + 1).toNat = v)) ∧ (¬ (u + v) % 2 = 0 → ¬ v = 7 → u = 0 → (gzu (i + 1).toNat = u ∧ gzv (i + 1).toNat = v + 1)) ∧ (¬ (u + v) % 2 = 0 → ¬ v = 7 → ¬ u = 0 → (gzu (i + 1).toNat = u - 1 ∧ gzv (i + 1).toNat = v + 1)) := by
  have h := gzz0 ⟨i.toNat, by omega⟩
  have e : (i + 1).toNat = i.toNat + 1 := by omega
  rw [e, eu, ev]
  obtain ⟨a1, a2, a3, a4, b1, b2, b3, b4, b5, b6⟩ := h
  exact ⟨⟨a1, a2, a3, a4⟩, b1, b2, b3, b4, b5, b6⟩
theorem rTk_2 : rT 2 = some rg2 := rfl
theorem rTk_3 : rT 3 = some rg3 := rfl
theorem rTk_4 : rT 4 = some rg4 := rfl
theorem rTk_5 : rT 5 = some rg5 := rfl
theorem rTk_6 : rT 6 = some rg6 := rfl
theorem rTk_7 : rT 7 = some rg7 := rfl
theorem rTk_8 : rT 8 = some rg8 := rfl
theorem rTk_9 : rT 9 = some rg9 := rfl
theorem rTk_10 : rT 10 = some rg10 := rfl
theorem rTk_11 : rT 11 = some rg11 := rfl
theorem rTk_12 : rT 12 = some rg12 := rfl
theorem rTk_13 : rT 13 = some rg13 := rfl
theorem rTk_14 : rT 14 = some rg14 := rfl
theorem rTk_15 : rT 15 = some rg15 := rfl
theorem rTk_16 : rT 16 = some rg16 := rfl
theorem rTk_17 : rT 17 = some rg17 := rfl
theorem rTk_18 : rT 18 = some rg18 := rfl
theorem rTk_19 : rT 19 = some rg19 := rfl
theorem rTk_20 : rT 20 = some rg20 := rfl
theorem rTk_21 : rT 21 = some rg21 := rfl
theorem rTk_22 : rT 22 = some rg22 := rfl
theorem rTk_23 : rT 23 = some rg23 := rfl
theorem rTk_24 : rT 24 = some rg24 := rfl
theorem rTk_25 : rT 25 = some rg25 := rfl
theorem rTk_26 : rT 26 = some rg26 := rfl
theorem rTk_27 : rT 27 = some rg27 := rfl
theorem rTk_28 : rT 28 = some rg28 := rfl
theorem rTk_29 : rT 29 = some rg29 := rfl
theorem rTk_30 : rT 30 = some rg30 := rfl
theorem rTk_31 : rT 31 = some rg31 := rfl
theorem rTk_32 : rT 32 = some rg32 := rfl
theorem rTk_33 : rT 33 = some rg33 := rfl
theorem rTk_34 : rT 34 = some rg34 := rfl
theorem rTk_35 : rT 35 = some rg35 := rfl
theorem rTk_36 : rT 36 = some rg36 := rfl
theorem rTk_37 : rT 37 = some rg37 := rfl
theorem rTk_38 : rT 38 = some rg38 := rfl
theorem rTk_39 : rT 39 = some rg39 := rfl
theorem rTk_40 : rT 40 = some rg40 := rfl
theorem rTk_41 : rT 41 = some rg41 := rfl
theorem rTk_42 : rT 42 = some rg42 := rfl
set_option maxRecDepth 20000 in
set_option maxHeartbeats 4000000 in
theorem cmlp3349 (d : Nat) {ty : Nat → Nat} {h : gH} (hJ : gJ rT 1027 ty h) (x : Nat) (nx : 1027 ≤ x) (c3 c23 c46 c72 c101 c133 c171 c209 c250 c294 c341 c391 c447 c503 c562 c624 c689 c760 c831 c905 c982 c1065 c1148 c1234 c1323 c1420 c1517 c1617 c1723 c1829 c1938 c2053 c2168 c2286 c2410 c2534 c2661 c2794 c2927 c3063 c3205 : Nat) : ∀ (fu : Nat) (ty3352 : Nat → Nat) (h3351 : gH) (u : Int) (v : Int) (i : Int), (65 - i).toNat < fu → gSg [1, 2, 3, 4, 5, 6, 7, 8, 9, 10, 11, 12, 13, 14, 15, 16, 17, 18, 19, 20, 21, 22, 23, 24, 25, 26, 27, 28, 29, 30, 31, 32, 33, 34, 35, 36, 37, 38, 39, 40, 41, 42, 200] [x] [8999, 10999, 31999] ty h ty3352 h3351 → gUq ty3352 → ty3352 x = 200 → ty3352 c3 = 2 → ty3352 c23 = 3 → ty3352 c46 = 4 → ty3352 c72 = 5 → ty3352 c101 = 6 → ty3352 c133 = 7 → ty3352 c171 = 8 → ty3352 c209 = 9 → ty3352 c250 = 10 → ty3352 c294 = 11 → ty3352 c341 = 12 → ty3352 c391 = 13 → ty3352 c447 = 14 → ty3352 c503 = 15 → ty3352 c562 = 16 → ty3352 c624 = 17 → ty3352 c689 = 18 → ty3352 c760 = 19 → ty3352 c831 = 20 → ty3352 c905 = 21 → ty3352 c982 = 22 → ty3352 c1065 = 23 → ty3352 c1148 = 24 → ty3352 c1234 = 25 → ty3352 c1323 = 26 → ty3352 c1420 = 27 → ty3352 c1517 = 28 → ty3352 c1617 = 29 → ty3352 c1723 = 30 → ty3352 c1829 = 31 → ty3352 c1938 = 32 → ty3352 c2053 = 33 → ty3352 c2168 = 34 → ty3352 c2286 = 35 → ty3352 c2410 = 36 → ty3352 c2534 = 37 → ty3352 c2661 = 38 → ty3352 c2794 = 39 → ty3352 c2927 = 40 → ty3352 c3063 = 41 → ty3352 c3205 = 42 → (0 ≤ u ∧ u ≤ 8) → (0 ≤ v ∧ v ≤ 8) → (0 ≤ i ∧ i ≤ 64) → (u = gzu i.toNat) → (v = gzv i.toNat) → ((h3351.1 : Int) = h.1 + 41) → ((h3351.2.1 : Int) = h.2.1 + 88652) → h3351.2.2.2.2 x 2 = .ref c3 → h3351.2.2.2.2 x 4 = .ref c23 → h3351.2.2.2.2 x 9 = .ref c46 → h3351.2.2.2.2 x 10 = .ref c72 → h3351.2.2.2.2 x 11 = .ref c101 → h3351.2.2.2.2 x 12 = .ref c133 → h3351.2.2.2.2 x 13 = .ref c171 → h3351.2.2.2.2 x 14 = .ref c209 → h3351.2.2.2.2 x 15 = .ref c250 → h3351.2.2.2.2 x 25 = .ref c294 → h3351.2.2.2.2 x 26 = .ref c341 → h3351.2.2.2.2 x 27 = .ref c391 → h3351.2.2.2.2 x 28 = .ref c447 → h3351.2.2.2.2 x 29 = .ref c503 → h3351.2.2.2.2 x 30 = .ref c562 → h3351.2.2.2.2 x 31 = .ref c624 → h3351.2.2.2.2 x 32 = .ref c689 → h3351.2.2.2.2 x 33 = .ref c760 → h3351.2.2.2.2 x 34 = .ref c831 → h3351.2.2.2.2 x 35 = .ref c905 → h3351.2.2.2.2 x 36 = .ref c982 → h3351.2.2.2.2 x 37 = .ref c1065 → h3351.2.2.2.2 x 38 = .ref c1148 → h3351.2.2.2.2 x 40 = .ref c1234 → h3351.2.2.2.2 x 49 = .ref c1323 → h3351.2.2.2.2 x 54 = .ref c1420 → h3351.2.2.2.2 x 55 = .ref c1517 → h3351.2.2.2.2 x 56 = .ref c1617 → h3351.2.2.2.2 x 57 = .ref c1723 → h3351.2.2.2.2 x 58 = .ref c1829 → h3351.2.2.2.2 x 60 = .ref c1938 → h3351.2.2.2.2 x 63 = .ref c2053 → h3351.2.2.2.2 x 65 = .ref c2168 → h3351.2.2.2.2 x 66 = .ref c2286 → h3351.2.2.2.2 x 68 = .ref c2410 → h3351.2.2.2.2 x 69 = .ref c2534 → h3351.2.2.2.2 x 70 = .ref c2661 → h3351.2.2.2.2 x 71 = .ref c2794 → h3351.2.2.2.2 x 72 = .ref c2927 → h3351.2.2.2.2 x 73 = .ref c3063 → h3351.2.2.2.2 x 76 = .ref c3205 → gNo [1] ty3352 → gOyB ty3352 26 0 1024 h3351 → gOy ty3352 31 (-1) i h3351 → x < h3351.1 → h3351.2.2.1 x = some (.inr 12) → h3351.2.2.2.1 x = 0 → (∀ k, ¬ k ∈ ([76, 73, 72, 71, 70, 69, 68, 66, 65, 63, 60, 58, 57, 56, 55, 54, 49, 40, 38, 37, 36, 35, 34, 33, 32, 31, 30, 29, 28, 27, 26, 25, 15, 14, 13, 12, 11, 10, 9, 4, 2] : List Nat) → h3351.2.2.2.2 x k = defaultValue (gGG.2.1 12 k)) → gz gPP gGG gcn (d + 1) gt130 365 [some (.ref x), some (.int (zi u)), some (.int (zi v)), some (.int (zi i)), none] [] h3351 (fun q _ => ∃ ty9 : Nat → Nat, gSg [1, 2, 3, 4, 5, 6, 7, 8, 9, 10, 11, 12, 13, 14, 15, 16, 17, 18, 19, 20, 21, 22, 23, 24, 25, 26, 27, 28, 29, 30, 31, 32, 33, 34, 35, 36, 37, 38, 39, 40, 41, 42, 200] [x] [8999, 10999, 31999] ty h ty9 q.2.2 ∧ ∃ ip n1 cw ch iv1 : Int, ty9 x = 1 ∧ gfin gt130 q.1 q.2.1 = some none ∧ q.2.2.2.2.2.2 x 16 = .int (zi ip) ∧ 0 ≤ ip ∧ ip ≤ 1 ∧ q.2.2.2.2.2.2 x 53 = .int (zi n1) ∧ 0 ≤ n1 ∧ n1 ≤ 10 ∧ q.2.2.2.2.2.2 x 50 = .int (zi cw) ∧ 0 ≤ cw ∧ cw ≤ 32 ∧ q.2.2.2.2.2.2 x 51 = .int (zi ch) ∧ 0 ≤ ch ∧ ch ≤ 32 ∧ q.2.2.2.2.2.2 x 52 = .int (zi iv1) ∧ 0 ≤ iv1 ∧ iv1 ≤ 100 ∧ (ip = 0) ∧ (n1 = 0) ∧ (cw = 0) ∧ (ch = 0) ∧ (iv1 = 0) ∧ ((q.2.2.1 : Int) = h.1 + 41) ∧ ((q.2.2.2.1 : Int) = h.2.1 + 88652) ∧ (gTs ty9 0 q.2.2) ∧ (gOyB ty9 26 0 1024 q.2.2) ∧ gUq ty9) := by
  intro fu
  induction fu with
  | zero => intro ty3352 h3351 u v i hm; exact absurd hm (Nat.not_lt_zero _)
  | succ fu ihlp3349 =>
    intro ty3352 h3351 u v i lp3349m lp3349G lp3349u lp3349c0 lp3349c1 lp3349c2 lp3349c3 lp3349c4 lp3349c5 lp3349c6 lp3349c7 lp3349c8 lp3349c9 lp3349c10 lp3349c11 lp3349c12 lp3349c13 lp3349c14 lp3349c15 lp3349c16 lp3349c17 lp3349c18 lp3349c19 lp3349c20 lp3349c21 lp3349c22 lp3349c23 lp3349c24 lp3349c25 lp3349c26 lp3349c27 lp3349c28 lp3349c29 lp3349c30 lp3349c31 lp3349c32 lp3349c33 lp3349c34 lp3349c35 lp3349c36 lp3349c37 lp3349c38 lp3349c39 lp3349c40 lp3349c41 lp3349f0 lp3349f1 lp3349f2 lp3349f3 lp3349f4 lp3349f5 lp3349f6 lp3349k0 lp3349k1 lp3349k2 lp3349k3 lp3349k4 lp3349k5 lp3349k6 lp3349k7 lp3349k8 lp3349k9 lp3349k10 lp3349k11 lp3349k12 lp3349k13 lp3349k14 lp3349k15 lp3349k16 lp3349k17 lp3349k18 lp3349k19 lp3349k20 lp3349k21 lp3349k22 lp3349k23 lp3349k24 lp3349k25 lp3349k26 lp3349k27 lp3349k28 lp3349k29 lp3349k30 lp3349k31 lp3349k32 lp3349k33 lp3349k34 lp3349k35 lp3349k36 lp3349k37 lp3349k38 lp3349k39 lp3349k40 lp3349k41 lp3349k42 lp3349k43 lp3349w0 lp3349w1 lp3349w2 lp3349w3
    have sh3351 : gSs rT 1027 ty3352 [8999, 10999, 31999] h3351 h3351 := gSs.rf lp3349G.1
    refine gz_s 2 (pc' := 368) (L' := [some (.ref x), some (.int (zi u)), some (.int (zi v)), some (.int (zi i)), none]) (S' := [.int (zi 64), .int (zi i)]) rfl ?_
    by_cases hc3353 : (64 : Int) ≤ i
    · refine gy_icT (pc' := 475) rfl (by decide) (by decide) (by omega) (by omega) hc3353 ?_
      have df3354 := (show h3351.2.2.2.2 x 0 = .int (zi 0) from lp3349w3 0 (by decide))
      have df3355 := (show h3351.2.2.2.2 x 1 = .int (zi 0) from lp3349w3 1 (by decide))
      have df3356 := (show h3351.2.2.2.2 x 3 = .int (zi 0) from lp3349w3 3 (by decide))
      have df3357 := (show h3351.2.2.2.2 x 5 = .int (zi 0) from lp3349w3 5 (by decide))
      have df3358 := (show h3351.2.2.2.2 x 6 = .int (zi 0) from lp3349w3 6 (by decide))
      have df3359 := (show h3351.2.2.2.2 x 7 = .int (zi 0) from lp3349w3 7 (by decide))
      have df3360 := (show h3351.2.2.2.2 x 8 = .int (zi 0) from lp3349w3 8 (by decide))
      have df3361 := (show h3351.2.2.2.2 x 16 = .int (zi 0) from lp3349w3 16 (by decide))
      have df3362 := (show h3351.2.2.2.2 x 17 = .int (zi 0) from lp3349w3 17 (by decide))
      have df3363 := (show h3351.2.2.2.2 x 18 = .int (zi 0) from lp3349w3 18 (by decide))
      have df3364 := (show h3351.2.2.2.2 x 19 = .int (zi 0) from lp3349w3 19 (by decide))
      have df3365 := (show h3351.2.2.2.2 x 20 = .int (zi 0) from lp3349w3 20 (by decide))
      have df3366 := (show h3351.2.2.2.2 x 21 = .int (zi 0) from lp3349w3 21 (by decide))
      have df3367 := (show h3351.2.2.2.2 x 22 = .int (zi 0) from lp3349w3 22 (by decide))
      have df3368 := (show h3351.2.2.2.2 x 23 = .int (zi 0) from lp3349w3 23 (by decide))
      have df3369 := (show h3351.2.2.2.2 x 24 = .int (zi 0) from lp3349w3 24 (by decide))
      have df3370 := (show h3351.2.2.2.2 x 39 = .int (zi 0) from lp3349w3 39 (by decide))
      have df3371 := (show h3351.2.2.2.2 x 41 = .int (zi 0) from lp3349w3 41 (by decide))
      have df3372 := (show h3351.2.2.2.2 x 42 = .int (zi 0) from lp3349w3 42 (by decide))
      have df3373 := (show h3351.2.2.2.2 x 43 = .int (zi 0) from lp3349w3 43 (by decide))
      have df3374 := (show h3351.2.2.2.2 x 44 = .int (zi 0) from lp3349w3 44 (by decide))
      have df3375 := (show h3351.2.2.2.2 x 45 = .int (zi 0) from lp3349w3 45 (by decide))
      have df3376 := (show h3351.2.2.2.2 x 46 = .int (zi 0) from lp3349w3 46 (by decide))
      have df3377 := (show h3351.2.2.2.2 x 47 = .int (zi 0) from lp3349w3 47 (by decide))
      have df3378 := (show h3351.2.2.2.2 x 48 = .int (zi 0) from lp3349w3 48 (by decide))
      have df3379 := (show h3351.2.2.2.2 x 50 = .int (zi 0) from lp3349w3 50 (by decide))
      have df3380 := (show h3351.2.2.2.2 x 51 = .int (zi 0) from lp3349w3 51 (by decide))
      have df3381 := (show h3351.2.2.2.2 x 52 = .int (zi 0) from lp3349w3 52 (by decide))
      have df3382 := (show h3351.2.2.2.2 x 53 = .int (zi 0) from lp3349w3 53 (by decide))
      have df3383 := (show h3351.2.2.2.2 x 59 = .int (zi 0) from lp3349w3 59 (by decide))
      have df3384 := (show h3351.2.2.2.2 x 61 = .int (zi 0) from lp3349w3 61 (by decide))
      have df3385 := (show h3351.2.2.2.2 x 62 = .int (zi 0) from lp3349w3 62 (by decide))
      have df3386 := (show h3351.2.2.2.2 x 64 = .int (zi 0) from lp3349w3 64 (by decide))
      have df3387 := (show h3351.2.2.2.2 x 67 = .int (zi 0) from lp3349w3 67 (by decide))
      have df3388 := (show h3351.2.2.2.2 x 74 = .int (zi 0) from lp3349w3 74 (by decide))
      have df3389 := (show h3351.2.2.2.2 x 75 = .int (zi 0) from lp3349w3 75 (by decide))
      obtain ⟨ty3391, g3390, tg3390, ug3390⟩ := gSg.adx 1 sh3351.1 lp3349c0 nx lp3349w0 rfl lp3349w1 (by show (0 : Nat) ≤ _; have h9 := lp3349w2; omega) (by show _ ≤ (0 : Nat); have h9 := lp3349w2; omega) (fun ty9 w9 k hk => ad1 (by rw [df3354]; exact ⟨0, rfl, by show (0 : Int) ≤ _; omega, by show _ ≤ (2 : Int); omega⟩) (by rw [df3355]; exact ⟨0, rfl, by show (0 : Int) ≤ _; omega, by show _ ≤ (2000 : Int); omega⟩) (by rw [lp3349k0]; exact ⟨c3, rfl, w9 c3 _ lp3349c1 (by decide)⟩) (by rw [df3356]; exact ⟨0, rfl, by show (0 : Int) ≤ _; omega, by show _ ≤ (2000 : Int); omega⟩) (by rw [lp3349k1]; exact ⟨c23, rfl, w9 c23 _ lp3349c2 (by decide)⟩) (by rw [df3357]; exact ⟨0, rfl, by show (0 : Int) ≤ _; omega, by show _ ≤ (4000 : Int); omega⟩) (by rw [df3358]; exact ⟨0, rfl, by show (0 : Int) ≤ _; omega, by show _ ≤ (2000 : Int); omega⟩) (by rw [df3359]; exact ⟨0, rfl, by show ((-1) : Int) ≤ _; omega, by show _ ≤ (4000 : Int); omega⟩) (by rw [df3360]; exact ⟨0, rfl, by show (0 : Int) ≤ _; omega, by show _ ≤ (65535 : Int); omega⟩) (by rw [lp3349k2]; exact ⟨c46, rfl, w9 c46 _ lp3349c3 (by decide)⟩) (by rw [lp3349k3]; exact ⟨c72, rfl, w9 c72 _ lp3349c4 (by decide)⟩) (by rw [lp3349k4]; exact ⟨c101, rfl, w9 c101 _ lp3349c5 (by decide)⟩) (by rw [lp3349k5]; exact ⟨c133, rfl, w9 c133 _ lp3349c6 (by decide)⟩) (by rw [lp3349k6]; exact ⟨c171, rfl, w9 c171 _ lp3349c7 (by decide)⟩) (by rw [lp3349k7]; exact ⟨c209, rfl, w9 c209 _ lp3349c8 (by decide)⟩) (by rw [lp3349k8]; exact ⟨c250, rfl, w9 c250 _ lp3349c9 (by decide)⟩) (by rw [df3361]; exact ⟨0, rfl, by show (0 : Int) ≤ _; omega, by show _ ≤ (1 : Int); omega⟩) (by rw [df3362]; exact ⟨0, rfl, by show (0 : Int) ≤ _; omega, by show _ ≤ (1 : Int); omega⟩) (by rw [df3363]; exact ⟨0, rfl, by show (0 : Int) ≤ _; omega, by show _ ≤ (64 : Int); omega⟩) (by rw [df3364]; exact ⟨0, rfl, by show (0 : Int) ≤ _; omega, by show _ ≤ (64 : Int); omega⟩) (by rw [df3365]; exact ⟨0, rfl, by show (0 : Int) ≤ _; omega, by show _ ≤ (3 : Int); omega⟩) (by rw [df3366]; exact ⟨0, rfl, by show (0 : Int) ≤ _; omega, by show _ ≤ (2 : Int); omega⟩) (by rw [df3367]; exact ⟨0, rfl, by show (0 : Int) ≤ _; omega, by show _ ≤ (2 : Int); omega⟩) (by rw [df3368]; exact ⟨0, rfl, by show (0 : Int) ≤ _; omega, by show _ ≤ (192 : Int); omega⟩) (by rw [df3369]; exact ⟨0, rfl, by show ((-2147483648) : Int) ≤ _; omega, by show _ ≤ (2147483647 : Int); omega⟩) (by rw [lp3349k9]; exact ⟨c294, rfl, w9 c294 _ lp3349c10 (by decide)⟩) (by rw [lp3349k10]; exact ⟨c341, rfl, w9 c341 _ lp3349c11 (by decide)⟩) (by rw [lp3349k11]; exact ⟨c391, rfl, w9 c391 _ lp3349c12 (by decide)⟩) (by rw [lp3349k12]; exact ⟨c447, rfl, w9 c447 _ lp3349c13 (by decide)⟩) (by rw [lp3349k13]; exact ⟨c503, rfl, w9 c503 _ lp3349c14 (by decide)⟩) (by rw [lp3349k14]; exact ⟨c562, rfl, w9 c562 _ lp3349c15 (by decide)⟩) (by rw [lp3349k15]; exact ⟨c624, rfl, w9 c624 _ lp3349c16 (by decide)⟩) (by rw [lp3349k16]; exact ⟨c689, rfl, w9 c689 _ lp3349c17 (by decide)⟩) (by rw [lp3349k17]; exact ⟨c760, rfl, w9 c760 _ lp3349c18 (by decide)⟩) (by rw [lp3349k18]; exact ⟨c831, rfl, w9 c831 _ lp3349c19 (by decide)⟩) (by rw [lp3349k19]; exact ⟨c905, rfl, w9 c905 _ lp3349c20 (by decide)⟩) (by rw [lp3349k20]; exact ⟨c982, rfl, w9 c982 _ lp3349c21 (by decide)⟩) (by rw [lp3349k21]; exact ⟨c1065, rfl, w9 c1065 _ lp3349c22 (by decide)⟩) (by rw [lp3349k22]; exact ⟨c1148, rfl, w9 c1148 _ lp3349c23 (by decide)⟩) (by rw [df3370]; exact ⟨0, rfl, by show (0 : Int) ≤ _; omega, by show _ ≤ (3 : Int); omega⟩) (by rw [lp3349k23]; exact ⟨c1234, rfl, w9 c1234 _ lp3349c24 (by decide)⟩) (by rw [df3371]; exact ⟨0, rfl, by show (0 : Int) ≤ _; omega, by show _ ≤ (255 : Int); omega⟩) (by rw [df3372]; exact ⟨0, rfl, by show (0 : Int) ≤ _; omega, by show _ ≤ (255 : Int); omega⟩) (by rw [df3373]; exact ⟨0, rfl, by show (0 : Int) ≤ _; omega, by show _ ≤ (15 : Int); omega⟩) (by rw [df3374]; exact ⟨0, rfl, by show (0 : Int) ≤ _; omega, by show _ ≤ (15 : Int); omega⟩) (by rw [df3375]; exact ⟨0, rfl, by show ((-2147483648) : Int) ≤ _; omega, by show _ ≤ (2147483647 : Int); omega⟩) (by rw [df3376]; exact ⟨0, rfl, by show (0 : Int) ≤ _; omega, by show _ ≤ (1 : Int); omega⟩) (by rw [df3377]; exact ⟨0, rfl, by show (0 : Int) ≤ _; omega, by show _ ≤ (4000 : Int); omega⟩) (by rw [df3378]; exact ⟨0, rfl, by show (0 : Int) ≤ _; omega, by show _ ≤ (8 : Int); omega⟩) (by rw [lp3349k24]; exact ⟨c1323, rfl, w9 c1323 _ lp3349c25 (by decide)⟩) (by rw [df3379]; exact ⟨0, rfl, by show (0 : Int) ≤ _; omega, by show _ ≤ (32 : Int); omega⟩) (by rw [df3380]; exact ⟨0, rfl, by show (0 : Int) ≤ _; omega, by show _ ≤ (32 : Int); omega⟩) (by rw [df3381]; exact ⟨0, rfl, by show (0 : Int) ≤ _; omega, by show _ ≤ (100 : Int); omega⟩) (by rw [df3382]; exact ⟨0, rfl, by show (0 : Int) ≤ _; omega, by show _ ≤ (10 : Int); omega⟩) (by rw [lp3349k25]; exact ⟨c1420, rfl, w9 c1420 _ lp3349c26 (by decide)⟩) (by rw [lp3349k26]; exact ⟨c1517, rfl, w9 c1517 _ lp3349c27 (by decide)⟩) (by rw [lp3349k27]; exact ⟨c1617, rfl, w9 c1617 _ lp3349c28 (by decide)⟩) (by rw [lp3349k28]; exact ⟨c1723, rfl, w9 c1723 _ lp3349c29 (by decide)⟩) (by rw [lp3349k29]; exact ⟨c1829, rfl, w9 c1829 _ lp3349c30 (by decide)⟩) (by rw [df3383]; exact ⟨0, rfl, by show (0 : Int) ≤ _; omega, by show _ ≤ (60000 : Int); omega⟩) (by rw [lp3349k30]; exact ⟨c1938, rfl, w9 c1938 _ lp3349c31 (by decide)⟩) (by rw [df3384]; exact ⟨0, rfl, by show ((-2147483648) : Int) ≤ _; omega, by show _ ≤ (2147483647 : Int); omega⟩) (by rw [df3385]; exact ⟨0, rfl, by show (0 : Int) ≤ _; omega, by show _ ≤ (8 : Int); omega⟩) (by rw [lp3349k31]; exact ⟨c2053, rfl, w9 c2053 _ lp3349c32 (by decide)⟩) (by rw [df3386]; exact ⟨0, rfl, by show (0 : Int) ≤ _; omega, by show _ ≤ (16 : Int); omega⟩) (by rw [lp3349k32]; exact ⟨c2168, rfl, w9 c2168 _ lp3349c33 (by decide)⟩) (by rw [lp3349k33]; exact ⟨c2286, rfl, w9 c2286 _ lp3349c34 (by decide)⟩) (by rw [df3387]; exact ⟨0, rfl, by show (0 : Int) ≤ _; omega, by show _ ≤ (1 : Int); omega⟩) (by rw [lp3349k34]; exact ⟨c2410, rfl, w9 c2410 _ lp3349c35 (by decide)⟩) (by rw [lp3349k35]; exact ⟨c2534, rfl, w9 c2534 _ lp3349c36 (by decide)⟩) (by rw [lp3349k36]; exact ⟨c2661, rfl, w9 c2661 _ lp3349c37 (by decide)⟩) (by rw [lp3349k37]; exact ⟨c2794, rfl, w9 c2794 _ lp3349c38 (by decide)⟩) (by rw [lp3349k38]; exact ⟨c2927, rfl, w9 c2927 _ lp3349c39 (by decide)⟩) (by rw [lp3349k39]; exact ⟨c3063, rfl, w9 c3063 _ lp3349c40 (by decide)⟩) (by rw [df3388]; exact ⟨0, rfl, by show ((-2048) : Int) ≤ _; omega, by show _ ≤ (2048 : Int); omega⟩) (by rw [df3389]; exact ⟨0, rfl, by show (0 : Int) ≤ _; omega, by show _ ≤ (64 : Int); omega⟩) (by rw [lp3349k40]; exact ⟨c3205, rfl, w9 c3205 _ lp3349c41 (by decide)⟩) k)
      have uq3392 := ug3390 lp3349u (Or.inr lp3349k41)
      have G3393 : gSg [1, 2, 3, 4, 5, 6, 7, 8, 9, 10, 11, 12, 13, 14, 15, 16, 17, 18, 19, 20, 21, 22, 23, 24, 25, 26, 27, 28, 29, 30, 31, 32, 33, 34, 35, 36, 37, 38, 39, 40, 41, 42, 200] [x] [8999, 10999, 31999] ty h ty3391 h3351 := gSg.tr (gSg.ss lp3349G sh3351 (by decide)) g3390 (by decide) (by decide) (fun x hx => Or.inr hx)
      have t3394 : ty3391 c3 = 2 := gSg.typ g3390 sh3351.1 lp3349c1 rTk_2
      have t3395 : ty3391 c23 = 3 := gSg.typ g3390 sh3351.1 lp3349c2 rTk_3
      have t3396 : ty3391 c46 = 4 := gSg.typ g3390 sh3351.1 lp3349c3 rTk_4
      have t3397 : ty3391 c72 = 5 := gSg.typ g3390 sh3351.1 lp3349c4 rTk_5
      have t3398 : ty3391 c101 = 6 := gSg.typ g3390 sh3351.1 lp3349c5 rTk_6
      have t3399 : ty3391 c133 = 7 := gSg.typ g3390 sh3351.1 lp3349c6 rTk_7
      have t3400 : ty3391 c171 = 8 := gSg.typ g3390 sh3351.1 lp3349c7 rTk_8
      have t3401 : ty3391 c209 = 9 := gSg.typ g3390 sh3351.1 lp3349c8 rTk_9
      have t3402 : ty3391 c250 = 10 := gSg.typ g3390 sh3351.1 lp3349c9 rTk_10
      have t3403 : ty3391 c294 = 11 := gSg.typ g3390 sh3351.1 lp3349c10 rTk_11
      have t3404 : ty3391 c341 = 12 := gSg.typ g3390 sh3351.1 lp3349c11 rTk_12
      have t3405 : ty3391 c391 = 13 := gSg.typ g3390 sh3351.1 lp3349c12 rTk_13
      have t3406 : ty3391 c447 = 14 := gSg.typ g3390 sh3351.1 lp3349c13 rTk_14
      have t3407 : ty3391 c503 = 15 := gSg.typ g3390 sh3351.1 lp3349c14 rTk_15
      have t3408 : ty3391 c562 = 16 := gSg.typ g3390 sh3351.1 lp3349c15 rTk_16
      have t3409 : ty3391 c624 = 17 := gSg.typ g3390 sh3351.1 lp3349c16 rTk_17
      have t3410 : ty3391 c689 = 18 := gSg.typ g3390 sh3351.1 lp3349c17 rTk_18
      have t3411 : ty3391 c760 = 19 := gSg.typ g3390 sh3351.1 lp3349c18 rTk_19
      have t3412 : ty3391 c831 = 20 := gSg.typ g3390 sh3351.1 lp3349c19 rTk_20
      have t3413 : ty3391 c905 = 21 := gSg.typ g3390 sh3351.1 lp3349c20 rTk_21
      have t3414 : ty3391 c982 = 22 := gSg.typ g3390 sh3351.1 lp3349c21 rTk_22
      have t3415 : ty3391 c1065 = 23 := gSg.typ g3390 sh3351.1 lp3349c22 rTk_23
      have t3416 : ty3391 c1148 = 24 := gSg.typ g3390 sh3351.1 lp3349c23 rTk_24
      have t3417 : ty3391 c1234 = 25 := gSg.typ g3390 sh3351.1 lp3349c24 rTk_25
      have t3418 : ty3391 c1323 = 26 := gSg.typ g3390 sh3351.1 lp3349c25 rTk_26
      have t3419 : ty3391 c1420 = 27 := gSg.typ g3390 sh3351.1 lp3349c26 rTk_27
      have t3420 : ty3391 c1517 = 28 := gSg.typ g3390 sh3351.1 lp3349c27 rTk_28
      have t3421 : ty3391 c1617 = 29 := gSg.typ g3390 sh3351.1 lp3349c28 rTk_29
      have t3422 : ty3391 c1723 = 30 := gSg.typ g3390 sh3351.1 lp3349c29 rTk_30
      have t3423 : ty3391 c1829 = 31 := gSg.typ g3390 sh3351.1 lp3349c30 rTk_31
      have t3424 : ty3391 c1938 = 32 := gSg.typ g3390 sh3351.1 lp3349c31 rTk_32
      have t3425 : ty3391 c2053 = 33 := gSg.typ g3390 sh3351.1 lp3349c32 rTk_33
      have t3426 : ty3391 c2168 = 34 := gSg.typ g3390 sh3351.1 lp3349c33 rTk_34
      have t3427 : ty3391 c2286 = 35 := gSg.typ g3390 sh3351.1 lp3349c34 rTk_35
      have t3428 : ty3391 c2410 = 36 := gSg.typ g3390 sh3351.1 lp3349c35 rTk_36
      have t3429 : ty3391 c2534 = 37 := gSg.typ g3390 sh3351.1 lp3349c36 rTk_37
      have t3430 : ty3391 c2661 = 38 := gSg.typ g3390 sh3351.1 lp3349c37 rTk_38
      have t3431 : ty3391 c2794 = 39 := gSg.typ g3390 sh3351.1 lp3349c38 rTk_39
      have t3432 : ty3391 c2927 = 40 := gSg.typ g3390 sh3351.1 lp3349c39 rTk_40
      have t3433 : ty3391 c3063 = 41 := gSg.typ g3390 sh3351.1 lp3349c40 rTk_41
      have t3434 : ty3391 c3205 = 42 := gSg.typ g3390 sh3351.1 lp3349c41 rTk_42
      have pr3435 := gOyB.gr g3390 sh3351.1 rfl (by decide) (by decide) lp3349k42
      have pr3436 := gOy.gr g3390 sh3351.1 rfl (by decide) (by decide) lp3349k43
      have sS3437 : gSs rT 1027 ty3391 [8999, 10999, 31999] h3351 h3351 := gSs.rf g3390.1
      have hts3438 : gTs ty3391 0 h3351 := gTs.anew (gRow.mk uq3392 t3419 (by decide) (fun _ => rfl)) (gRow.mk uq3392 t3420 (by decide) (fun _ => rfl)) (by have e9 := pr3436; rw [(by omega : i = 64)] at e9; exact e9)
      have G3439 : gSg [1, 2, 3, 4, 5, 6, 7, 8, 9, 10, 11, 12, 13, 14, 15, 16, 17, 18, 19, 20, 21, 22, 23, 24, 25, 26, 27, 28, 29, 30, 31, 32, 33, 34, 35, 36, 37, 38, 39, 40, 41, 42, 200] [x] [8999, 10999, 31999] ty h ty3391 h3351 := gSg.ss G3393 sS3437 (by decide)
      exact gz_end (I := .return_) (len := 1) rfl (Or.inl rfl) ⟨ty3391, G3439, 0, 0, 0, 0, 0, tg3390, rfl, df3361, (by omega), (by omega), df3382, (by omega), (by omega), df3379, (by omega), (by omega), df3380, (by omega), (by omega), df3381, (by omega), (by omega), (by omega), (by omega), (by omega), (by omega), (by omega), (by dsimp only; omega), (by dsimp only; omega), hts3438, pr3435, uq3392⟩
    · refine gy_icF rfl (by decide) (by decide) (by omega) (by omega) hc3353 ?_
      have hzz := gzz (i := i) (u := u) (v := v) (by omega) (by omega) (by omega) (by omega)
      refine gz_s 1 (pc' := 372) (L' := [some (.ref x), some (.int (zi u)), some (.int (zi v)), some (.int (zi i)), none]) (S' := [.ref x]) rfl ?_
      refine gz_get rfl (by decide) rfl nx lp3349w0 lp3349w1 lp3349k8 ?_
      refine gy_s 6 (pc' := 382) (L' := [some (.ref x), some (.int (zi u)), some (.int (zi v)), some (.int (zi i)), none]) (S' := [.int (((zi 8) * (zi v)) + (zi u)), .int (zi i), .ref c250]) (L2 := [some (.ref x), some (.int (zi u)), some (.int (zi v)), some (.int (zi i)), none]) (S2 := [.int (zi ((8 * v) + u)), .int (zi i), .ref c250]) rfl (by simp only [zi_add, zi_sub, zi_mul, zi_neg, zi_and1, zi_and7, zi_and15, zi_and31, zi_and255]) (by simp only [zi_add, zi_sub, zi_mul, zi_neg, zi_and1, zi_and7, zi_and15, zi_and31, zi_and255]) ?_
      have hl3440 : 64 ≤ h3351.2.2.2.1 c250 ∧ h3351.2.2.2.1 c250 ≤ 64 := gJ.rowl (G := gGG) sh3351.1 lp3349c9 rfl
      refine gs_ast rfl (by decide) sh3351 lp3349c9 rfl rfl rfl (by decide) (fun _ => rfl) (by omega) (by omega) (fun _ => (by decide : (10999 : Nat) ∈ ([8999, 10999, 31999] : List Nat))) (by omega) (by omega) (fun h3441 sh3441 eh3441 fh3441 => ?_)
      have pr3442 := gOyB.pt fh3441 lp3349c9 (by decide) lp3349k42
      have pr3443 := gOy.pt fh3441 lp3349c9 (by decide) lp3349k43
      have s3444 := (fh3441 x 2 (fun q => absurd (((lp3349c0).symm.trans (congrArg ty3352 q.1)).trans lp3349c9) (by decide))).trans lp3349k0
      have s3445 := (fh3441 x 4 (fun q => absurd (((lp3349c0).symm.trans (congrArg ty3352 q.1)).trans lp3349c9) (by decide))).trans lp3349k1
      have s3446 := (fh3441 x 9 (fun q => absurd (((lp3349c0).symm.trans (congrArg ty3352 q.1)).trans lp3349c9) (by decide))).trans lp3349k2
      have s3447 := (fh3441 x 10 (fun q => absurd (((lp3349c0).symm.trans (congrArg ty3352 q.1)).trans lp3349c9) (by decide))).trans lp3349k3
      have s3448 := (fh3441 x 11 (fun q => absurd (((lp3349c0).symm.trans (congrArg ty3352 q.1)).trans lp3349c9) (by decide))).trans lp3349k4
      have s3449 := (fh3441 x 12 (fun q => absurd (((lp3349c0).symm.trans (congrArg ty3352 q.1)).trans lp3349c9) (by decide))).trans lp3349k5
      have s3450 := (fh3441 x 13 (fun q => absurd (((lp3349c0).symm.trans (congrArg ty3352 q.1)).trans lp3349c9) (by decide))).trans lp3349k6
      have s3451 := (fh3441 x 14 (fun q => absurd (((lp3349c0).symm.trans (congrArg ty3352 q.1)).trans lp3349c9) (by decide))).trans lp3349k7
      have s3452 := (fh3441 x 15 (fun q => absurd (((lp3349c0).symm.trans (congrArg ty3352 q.1)).trans lp3349c9) (by decide))).trans lp3349k8
      have s3453 := (fh3441 x 25 (fun q => absurd (((lp3349c0).symm.trans (congrArg ty3352 q.1)).trans lp3349c9) (by decide))).trans lp3349k9
      have s3454 := (fh3441 x 26 (fun q => absurd (((lp3349c0).symm.trans (congrArg ty3352 q.1)).trans lp3349c9) (by decide))).trans lp3349k10
      have s3455 := (fh3441 x 27 (fun q => absurd (((lp3349c0).symm.trans (congrArg ty3352 q.1)).trans lp3349c9) (by decide))).trans lp3349k11
      have s3456 := (fh3441 x 28 (fun q => absurd (((lp3349c0).symm.trans (congrArg ty3352 q.1)).trans lp3349c9) (by decide))).trans lp3349k12
      have s3457 := (fh3441 x 29 (fun q => absurd (((lp3349c0).symm.trans (congrArg ty3352 q.1)).trans lp3349c9) (by decide))).trans lp3349k13
      have s3458 := (fh3441 x 30 (fun q => absurd (((lp3349c0).symm.trans (congrArg ty3352 q.1)).trans lp3349c9) (by decide))).trans lp3349k14
      have s3459 := (fh3441 x 31 (fun q => absurd (((lp3349c0).symm.trans (congrArg ty3352 q.1)).trans lp3349c9) (by decide))).trans lp3349k15
      have s3460 := (fh3441 x 32 (fun q => absurd (((lp3349c0).symm.trans (congrArg ty3352 q.1)).trans lp3349c9) (by decide))).trans lp3349k16
      have s3461 := (fh3441 x 33 (fun q => absurd (((lp3349c0).symm.trans (congrArg ty3352 q.1)).trans lp3349c9) (by decide))).trans lp3349k17
      have s3462 := (fh3441 x 34 (fun q => absurd (((lp3349c0).symm.trans (congrArg ty3352 q.1)).trans lp3349c9) (by decide))).trans lp3349k18
      have s3463 := (fh3441 x 35 (fun q => absurd (((lp3349c0).symm.trans (congrArg ty3352 q.1)).trans lp3349c9) (by decide))).trans lp3349k19
      have s3464 := (fh3441 x 36 (fun q => absurd (((lp3349c0).symm.trans (congrArg ty3352 q.1)).trans lp3349c9) (by decide))).trans lp3349k20
      have s3465 := (fh3441 x 37 (fun q => absurd (((lp3349c0).symm.trans (congrArg ty3352 q.1)).trans lp3349c9) (by decide))).trans lp3349k21
      have s3466 := (fh3441 x 38 (fun q => absurd (((lp3349c0).symm.trans (congrArg ty3352 q.1)).trans lp3349c9) (by decide))).trans lp3349k22
      have s3467 := (fh3441 x 40 (fun q => absurd (((lp3349c0).symm.trans (congrArg ty3352 q.1)).trans lp3349c9) (by decide))).trans lp3349k23
      have s3468 := (fh3441 x 49 (fun q => absurd (((lp3349c0).symm.trans (congrArg ty3352 q.1)).trans lp3349c9) (by decide))).trans lp3349k24
      have s3469 := (fh3441 x 54 (fun q => absurd (((lp3349c0).symm.trans (congrArg ty3352 q.1)).trans lp3349c9) (by decide))).trans lp3349k25
      have s3470 := (fh3441 x 55 (fun q => absurd (((lp3349c0).symm.trans (congrArg ty3352 q.1)).trans lp3349c9) (by decide))).trans lp3349k26
      have s3471 := (fh3441 x 56 (fun q => absurd (((lp3349c0).symm.trans (congrArg ty3352 q.1)).trans lp3349c9) (by decide))).trans lp3349k27
      have s3472 := (fh3441 x 57 (fun q => absurd (((lp3349c0).symm.trans (congrArg ty3352 q.1)).trans lp3349c9) (by decide))).trans lp3349k28
      have s3473 := (fh3441 x 58 (fun q => absurd (((lp3349c0).symm.trans (congrArg ty3352 q.1)).trans lp3349c9) (by decide))).trans lp3349k29
      have s3474 := (fh3441 x 60 (fun q => absurd (((lp3349c0).symm.trans (congrArg ty3352 q.1)).trans lp3349c9) (by decide))).trans lp3349k30
      have s3475 := (fh3441 x 63 (fun q => absurd (((lp3349c0).symm.trans (congrArg ty3352 q.1)).trans lp3349c9) (by decide))).trans lp3349k31
      have s3476 := (fh3441 x 65 (fun q => absurd (((lp3349c0).symm.trans (congrArg ty3352 q.1)).trans lp3349c9) (by decide))).trans lp3349k32
      have s3477 := (fh3441 x 66 (fun q => absurd (((lp3349c0).symm.trans (congrArg ty3352 q.1)).trans lp3349c9) (by decide))).trans lp3349k33
      have s3478 := (fh3441 x 68 (fun q => absurd (((lp3349c0).symm.trans (congrArg ty3352 q.1)).trans lp3349c9) (by decide))).trans lp3349k34
      have s3479 := (fh3441 x 69 (fun q => absurd (((lp3349c0).symm.trans (congrArg ty3352 q.1)).trans lp3349c9) (by decide))).trans lp3349k35
      have s3480 := (fh3441 x 70 (fun q => absurd (((lp3349c0).symm.trans (congrArg ty3352 q.1)).trans lp3349c9) (by decide))).trans lp3349k36
      have s3481 := (fh3441 x 71 (fun q => absurd (((lp3349c0).symm.trans (congrArg ty3352 q.1)).trans lp3349c9) (by decide))).trans lp3349k37
      have s3482 := (fh3441 x 72 (fun q => absurd (((lp3349c0).symm.trans (congrArg ty3352 q.1)).trans lp3349c9) (by decide))).trans lp3349k38
      have s3483 := (fh3441 x 73 (fun q => absurd (((lp3349c0).symm.trans (congrArg ty3352 q.1)).trans lp3349c9) (by decide))).trans lp3349k39
      have s3484 := (fh3441 x 76 (fun q => absurd (((lp3349c0).symm.trans (congrArg ty3352 q.1)).trans lp3349c9) (by decide))).trans lp3349k40
      have dd3485 : ∀ k, ¬ k ∈ ([76, 73, 72, 71, 70, 69, 68, 66, 65, 63, 60, 58, 57, 56, 55, 54, 49, 40, 38, 37, 36, 35, 34, 33, 32, 31, 30, 29, 28, 27, 26, 25, 15, 14, 13, 12, 11, 10, 9, 4, 2] : List Nat) → h3441.2.2.2.2 x k = defaultValue (gGG.2.1 12 k) := fun k hk => (fh3441 x k (fun q => absurd (((lp3349c0).symm.trans (congrArg ty3352 q.1)).trans lp3349c9) (by decide))).trans (lp3349w3 k hk)
      have pr3486 := gEl.set (i := i) (z := (8 * v) + u) lp3349u lp3349c9 (by decide) eh3441 (by omega) (by omega)
      refine gz_s 1 (pc' := 384) (L' := [some (.ref x), some (.int (zi u)), some (.int (zi v)), some (.int (zi i)), none]) (S' := [.ref x]) rfl ?_
      refine gz_get rfl (by decide) rfl nx (Nat.lt_of_lt_of_eq lp3349w0 sh3441.2.1.symm) ((congrFun sh3441.2.2.2.1 x).trans lp3349w1) s3473 ?_
      refine gz_s 2 (pc' := 389) (L' := [some (.ref x), some (.int (zi u)), some (.int (zi v)), some (.int (zi i)), none]) (S' := [.int (zi (-1)), .int (zi i), .ref c1829]) rfl ?_
      obtain ⟨f9, rf9, of9⟩ := pr3443
      have hl3487 : 64 ≤ h3441.2.2.2.1 c1829 ∧ h3441.2.2.2.1 c1829 ≤ 64 := gJ.rowl (G := gGG) sh3441.1 lp3349c30 rfl
      refine gs_ast rfl (by decide) sh3441 lp3349c30 rfl rfl rfl (by decide) (fun _ => rfl) (by omega) (by omega) (fun _ => (by decide : (31999 : Nat) ∈ ([8999, 10999, 31999] : List Nat))) (by omega) (by omega) (fun h3488 sh3488 eh3488 fh3488 => ?_)
      have pr3489 := gOyB.pt fh3488 lp3349c30 (by decide) pr3442
      have pr3490 := gEl.pt fh3488 lp3349c30 (by decide) pr3486
      have pr3491 := gRow.put (i := i) (z := (-1)) lp3349u lp3349c30 (by decide) fh3488 eh3488 (by omega) (by omega) rf9
      have s3492 := (fh3488 x 2 (fun q => absurd (((lp3349c0).symm.trans (congrArg ty3352 q.1)).trans lp3349c30) (by decide))).trans s3444
      have s3493 := (fh3488 x 4 (fun q => absurd (((lp3349c0).symm.trans (congrArg ty3352 q.1)).trans lp3349c30) (by decide))).trans s3445
      have s3494 := (fh3488 x 9 (fun q => absurd (((lp3349c0).symm.trans (congrArg ty3352 q.1)).trans lp3349c30) (by decide))).trans s3446
      have s3495 := (fh3488 x 10 (fun q => absurd (((lp3349c0).symm.trans (congrArg ty3352 q.1)).trans lp3349c30) (by decide))).trans s3447
      have s3496 := (fh3488 x 11 (fun q => absurd (((lp3349c0).symm.trans (congrArg ty3352 q.1)).trans lp3349c30) (by decide))).trans s3448
      have s3497 := (fh3488 x 12 (fun q => absurd (((lp3349c0).symm.trans (congrArg ty3352 q.1)).trans lp3349c30) (by decide))).trans s3449
      have s3498 := (fh3488 x 13 (fun q => absurd (((lp3349c0).symm.trans (congrArg ty3352 q.1)).trans lp3349c30) (by decide))).trans s3450
      have s3499 := (fh3488 x 14 (fun q => absurd (((lp3349c0).symm.trans (congrArg ty3352 q.1)).trans lp3349c30) (by decide))).trans s3451
      have s3500 := (fh3488 x 15 (fun q => absurd (((lp3349c0).symm.trans (congrArg ty3352 q.1)).trans lp3349c30) (by decide))).trans s3452
      have s3501 := (fh3488 x 25 (fun q => absurd (((lp3349c0).symm.trans (congrArg ty3352 q.1)).trans lp3349c30) (by decide))).trans s3453
      have s3502 := (fh3488 x 26 (fun q => absurd (((lp3349c0).symm.trans (congrArg ty3352 q.1)).trans lp3349c30) (by decide))).trans s3454
      have s3503 := (fh3488 x 27 (fun q => absurd (((lp3349c0).symm.trans (congrArg ty3352 q.1)).trans lp3349c30) (by decide))).trans s3455
      have s3504 := (fh3488 x 28 (fun q => absurd (((lp3349c0).symm.trans (congrArg ty3352 q.1)).trans lp3349c30) (by decide))).trans s3456
      have s3505 := (fh3488 x 29 (fun q => absurd (((lp3349c0).symm.trans (congrArg ty3352 q.1)).trans lp3349c30) (by decide))).trans s3457
      have s3506 := (fh3488 x 30 (fun q => absurd (((lp3349c0).symm.trans (congrArg ty3352 q.1)).trans lp3349c30) (by decide))).trans s3458
      have s3507 := (fh3488 x 31 (fun q => absurd (((lp3349c0).symm.trans (congrArg ty3352 q.1)).trans lp3349c30) (by decide))).trans s3459
      have s3508 := (fh3488 x 32 (fun q => absurd (((lp3349c0).symm.trans (congrArg ty3352 q.1)).trans lp3349c30) (by decide))).trans s3460
      have s3509 := (fh3488 x 33 (fun q => absurd (((lp3349c0).symm.trans (congrArg ty3352 q.1)).trans lp3349c30) (by decide))).trans s3461
      have s3510 := (fh3488 x 34 (fun q => absurd (((lp3349c0).symm.trans (congrArg ty3352 q.1)).trans lp3349c30) (by decide))).trans s3462
      have s3511 := (fh3488 x 35 (fun q => absurd (((lp3349c0).symm.trans (congrArg ty3352 q.1)).trans lp3349c30) (by decide))).trans s3463
      have s3512 := (fh3488 x 36 (fun q => absurd (((lp3349c0).symm.trans (congrArg ty3352 q.1)).trans lp3349c30) (by decide))).trans s3464
      have s3513 := (fh3488 x 37 (fun q => absurd (((lp3349c0).symm.trans (congrArg ty3352 q.1)).trans lp3349c30) (by decide))).trans s3465
      have s3514 := (fh3488 x 38 (fun q => absurd (((lp3349c0).symm.trans (congrArg ty3352 q.1)).trans lp3349c30) (by decide))).trans s3466
      have s3515 := (fh3488 x 40 (fun q => absurd (((lp3349c0).symm.trans (congrArg ty3352 q.1)).trans lp3349c30) (by decide))).trans s3467
      have s3516 := (fh3488 x 49 (fun q => absurd (((lp3349c0).symm.trans (congrArg ty3352 q.1)).trans lp3349c30) (by decide))).trans s3468
      have s3517 := (fh3488 x 54 (fun q => absurd (((lp3349c0).symm.trans (congrArg ty3352 q.1)).trans lp3349c30) (by decide))).trans s3469
      have s3518 := (fh3488 x 55 (fun q => absurd (((lp3349c0).symm.trans (congrArg ty3352 q.1)).trans lp3349c30) (by decide))).trans s3470
      have s3519 := (fh3488 x 56 (fun q => absurd (((lp3349c0).symm.trans (congrArg ty3352 q.1)).trans lp3349c30) (by decide))).trans s3471
      have s3520 := (fh3488 x 57 (fun q => absurd (((lp3349c0).symm.trans (congrArg ty3352 q.1)).trans lp3349c30) (by decide))).trans s3472
      have s3521 := (fh3488 x 58 (fun q => absurd (((lp3349c0).symm.trans (congrArg ty3352 q.1)).trans lp3349c30) (by decide))).trans s3473
      have s3522 := (fh3488 x 60 (fun q => absurd (((lp3349c0).symm.trans (congrArg ty3352 q.1)).trans lp3349c30) (by decide))).trans s3474
      have s3523 := (fh3488 x 63 (fun q => absurd (((lp3349c0).symm.trans (congrArg ty3352 q.1)).trans lp3349c30) (by decide))).trans s3475
      have s3524 := (fh3488 x 65 (fun q => absurd (((lp3349c0).symm.trans (congrArg ty3352 q.1)).trans lp3349c30) (by decide))).trans s3476
      have s3525 := (fh3488 x 66 (fun q => absurd (((lp3349c0).symm.trans (congrArg ty3352 q.1)).trans lp3349c30) (by decide))).trans s3477
      have s3526 := (fh3488 x 68 (fun q => absurd (((lp3349c0).symm.trans (congrArg ty3352 q.1)).trans lp3349c30) (by decide))).trans s3478
      have s3527 := (fh3488 x 69 (fun q => absurd (((lp3349c0).symm.trans (congrArg ty3352 q.1)).trans lp3349c30) (by decide))).trans s3479
      have s3528 := (fh3488 x 70 (fun q => absurd (((lp3349c0).symm.trans (congrArg ty3352 q.1)).trans lp3349c30) (by decide))).trans s3480
      have s3529 := (fh3488 x 71 (fun q => absurd (((lp3349c0).symm.trans (congrArg ty3352 q.1)).trans lp3349c30) (by decide))).trans s3481
      have s3530 := (fh3488 x 72 (fun q => absurd (((lp3349c0).symm.trans (congrArg ty3352 q.1)).trans lp3349c30) (by decide))).trans s3482
      have s3531 := (fh3488 x 73 (fun q => absurd (((lp3349c0).symm.trans (congrArg ty3352 q.1)).trans lp3349c30) (by decide))).trans s3483
      have s3532 := (fh3488 x 76 (fun q => absurd (((lp3349c0).symm.trans (congrArg ty3352 q.1)).trans lp3349c30) (by decide))).trans s3484
      have dd3533 : ∀ k, ¬ k ∈ ([76, 73, 72, 71, 70, 69, 68, 66, 65, 63, 60, 58, 57, 56, 55, 54, 49, 40, 38, 37, 36, 35, 34, 33, 32, 31, 30, 29, 28, 27, 26, 25, 15, 14, 13, 12, 11, 10, 9, 4, 2] : List Nat) → h3488.2.2.2.2 x k = defaultValue (gGG.2.1 12 k) := fun k hk => (fh3488 x k (fun q => absurd (((lp3349c0).symm.trans (congrArg ty3352 q.1)).trans lp3349c30) (by decide))).trans (dd3485 k hk)
      clear s3444 s3445 s3446 s3447 s3448 s3449 s3450 s3451 s3452 s3453 s3454 s3455 s3456 s3457 s3458 s3459 s3460 s3461 s3462 s3463 s3464 s3465 s3466 s3467 s3468 s3469 s3470 s3471 s3472 s3473 s3474 s3475 s3476 s3477 s3478 s3479 s3480 s3481 s3482 s3483 s3484 pr3442 pr3486
      have pr3534 := gEl.set (i := i) (z := (-1)) lp3349u lp3349c30 (by decide) eh3488 (by omega) (by omega)
      have hoy3535 : gOy ty3352 31 (-1) (i + 1) h3488 := gOy.step (by omega) pr3491 of9
      refine gy_s 4 (pc' := 394) (L' := [some (.ref x), some (.int (zi u)), some (.int (zi v)), some (.int (zi i)), none]) (S' := [.int (zi 2), .int ((zi u) + (zi v))]) (L2 := [some (.ref x), some (.int (zi u)), some (.int (zi v)), some (.int (zi i)), none]) (S2 := [.int (zi 2), .int (zi (u + v))]) rfl (by simp only [zi_add, zi_sub, zi_mul, zi_neg, zi_and1, zi_and7, zi_and15, zi_and31, zi_and255]) (by simp only [zi_add, zi_sub, zi_mul, zi_neg, zi_and1, zi_and7, zi_and15, zi_and31, zi_and255]) ?_
      refine gy_rem rfl (by decide) (by omega) (by omega) ?_
      have jn3536 : ∀ (jn3536v0 : Int), ((0 ≤ jn3536v0) ∧ (jn3536v0 ≤ 1) ∧ (jn3536v0 = 1 ↔ (u + v) % 2 = 0)) → gz gPP gGG gcn (d + 1) gt130 403 [some (.ref x), some (.int (zi u)), some (.int (zi v)), some (.int (zi i)), none] [.int (zi jn3536v0)] h3488 (fun q _ => ∃ ty9 : Nat → Nat, gSg [1, 2, 3, 4, 5, 6, 7, 8, 9, 10, 11, 12, 13, 14, 15, 16, 17, 18, 19, 20, 21, 22, 23, 24, 25, 26, 27, 28, 29, 30, 31, 32, 33, 34, 35, 36, 37, 38, 39, 40, 41, 42, 200] [x] [8999, 10999, 31999] ty h ty9 q.2.2 ∧ ∃ ip n1 cw ch iv1 : Int, ty9 x = 1 ∧ gfin gt130 q.1 q.2.1 = some none ∧ q.2.2.2.2.2.2 x 16 = .int (zi ip) ∧ 0 ≤ ip ∧ ip ≤ 1 ∧ q.2.2.2.2.2.2 x 53 = .int (zi n1) ∧ 0 ≤ n1 ∧ n1 ≤ 10 ∧ q.2.2.2.2.2.2 x 50 = .int (zi cw) ∧ 0 ≤ cw ∧ cw ≤ 32 ∧ q.2.2.2.2.2.2 x 51 = .int (zi ch) ∧ 0 ≤ ch ∧ ch ≤ 32 ∧ q.2.2.2.2.2.2 x 52 = .int (zi iv1) ∧ 0 ≤ iv1 ∧ iv1 ≤ 100 ∧ (ip = 0) ∧ (n1 = 0) ∧ (cw = 0) ∧ (ch = 0) ∧ (iv1 = 0) ∧ ((q.2.2.1 : Int) = h.1 + 41) ∧ ((q.2.2.2.1 : Int) = h.2.1 + 88652) ∧ (gTs ty9 0 q.2.2) ∧ (gOyB ty9 26 0 1024 q.2.2) ∧ gUq ty9) := by
        intro jn3536v0 jn3536d
        refine gz_s 2 (pc' := 407) (L' := [some (.ref x), some (.int (zi u)), some (.int (zi v)), some (.int (zi i)), some (.int (zi jn3536v0))]) (S' := [.int (zi jn3536v0)]) rfl ?_
        by_cases hc3537 : (jn3536v0 : Int) = 0
        · refine gy_ifT (pc' := 441) rfl (by decide) (by decide) (by omega) hc3537 ?_
          refine gz_s 2 (pc' := 444) (L' := [some (.ref x), some (.int (zi u)), some (.int (zi v)), some (.int (zi i)), some (.int (zi jn3536v0))]) (S' := [.int (zi 7), .int (zi v)]) rfl ?_
          by_cases hc3538 : ¬ (v : Int) = 7
          · refine gy_icT (pc' := 453) rfl (by decide) (by decide) (by omega) (by omega) hc3538 ?_
            refine gz_s 1 (pc' := 454) (L' := [some (.ref x), some (.int (zi u)), some (.int (zi v)), some (.int (zi i)), some (.int (zi jn3536v0))]) (S' := [.int (zi u)]) rfl ?_
            by_cases hc3539 : ¬ (u : Int) = 0
            · refine gy_ifT (pc' := 463) rfl (by decide) (by decide) (by omega) hc3539 ?_
              refine gy_s 4 (pc' := 365) (L' := [some (.ref x), some (.int ((zi u) + zi (-1))), some (.int ((zi v) + zi 1)), some (.int ((zi i) + zi 1)), some (.int (zi jn3536v0))]) (S' := []) (L2 := [some (.ref x), some (.int (zi (u + (-1)))), some (.int (zi (v + 1))), some (.int (zi (i + 1))), some (.int (zi jn3536v0))]) (S2 := []) rfl (by simp only [zi_add, zi_sub, zi_mul, zi_neg, zi_and1, zi_and7, zi_and15, zi_and31, zi_and255]) (by simp only [zi_add, zi_sub, zi_mul, zi_neg, zi_and1, zi_and7, zi_and15, zi_and31, zi_and255]) ?_
              have k3540 := sh3488.2.1
              have k3540b := sh3488.2.2.1
              have G3541 : gSg [1, 2, 3, 4, 5, 6, 7, 8, 9, 10, 11, 12, 13, 14, 15, 16, 17, 18, 19, 20, 21, 22, 23, 24, 25, 26, 27, 28, 29, 30, 31, 32, 33, 34, 35, 36, 37, 38, 39, 40, 41, 42, 200] [x] [8999, 10999, 31999] ty h ty3352 h3488 := gSg.ss lp3349G sh3488 (by decide)
              exact gz_wk (ihlp3349 ty3352 h3488 (u + (-1)) (v + 1) (i + 1) (by omega) G3541 lp3349u lp3349c0 lp3349c1 lp3349c2 lp3349c3 lp3349c4 lp3349c5 lp3349c6 lp3349c7 lp3349c8 lp3349c9 lp3349c10 lp3349c11 lp3349c12 lp3349c13 lp3349c14 lp3349c15 lp3349c16 lp3349c17 lp3349c18 lp3349c19 lp3349c20 lp3349c21 lp3349c22 lp3349c23 lp3349c24 lp3349c25 lp3349c26 lp3349c27 lp3349c28 lp3349c29 lp3349c30 lp3349c31 lp3349c32 lp3349c33 lp3349c34 lp3349c35 lp3349c36 lp3349c37 lp3349c38 lp3349c39 lp3349c40 lp3349c41 (by omega) (by omega) (by omega) (by omega) (by omega) (by omega) (by omega) s3492 s3493 s3494 s3495 s3496 s3497 s3498 s3499 s3500 s3501 s3502 s3503 s3504 s3505 s3506 s3507 s3508 s3509 s3510 s3511 s3512 s3513 s3514 s3515 s3516 s3517 s3518 s3519 s3520 s3521 s3522 s3523 s3524 s3525 s3526 s3527 s3528 s3529 s3530 s3531 s3532 lp3349k41 pr3489 hoy3535 (Nat.lt_of_lt_of_eq lp3349w0 sh3488.2.1.symm) ((congrFun sh3488.2.2.2.1 x).trans lp3349w1) ((congrFun sh3488.2.2.2.2.1 x).trans lp3349w2) dd3533) (gLw.s (gLw.s (gLw.s (gLw.s (gLw.n gLw.z)))))
            · refine gy_ifF rfl (by decide) (by decide) (by omega) hc3539 ?_
              refine gy_s 4 (pc' := 365) (L' := [some (.ref x), some (.int (zi u)), some (.int ((zi v) + zi 1)), some (.int ((zi i) + zi 1)), some (.int (zi jn3536v0))]) (S' := []) (L2 := [some (.ref x), some (.int (zi u)), some (.int (zi (v + 1))), some (.int (zi (i + 1))), some (.int (zi jn3536v0))]) (S2 := []) rfl (by simp only [zi_add, zi_sub, zi_mul, zi_neg, zi_and1, zi_and7, zi_and15, zi_and31, zi_and255]) (by simp only [zi_add, zi_sub, zi_mul, zi_neg, zi_and1, zi_and7, zi_and15, zi_and31, zi_and255]) ?_
              have k3542 := sh3488.2.1
              have k3542b := sh3488.2.2.1
              have G3543 : gSg [1, 2, 3, 4, 5, 6, 7, 8, 9, 10, 11, 12, 13, 14, 15, 16, 17, 18, 19, 20, 21, 22, 23, 24, 25, 26, 27, 28, 29, 30, 31, 32, 33, 34, 35, 36, 37, 38, 39, 40, 41, 42, 200] [x] [8999, 10999, 31999] ty h ty3352 h3488 := gSg.ss lp3349G sh3488 (by decide)
              exact gz_wk (ihlp3349 ty3352 h3488 u (v + 1) (i + 1) (by omega) G3543 lp3349u lp3349c0 lp3349c1 lp3349c2 lp3349c3 lp3349c4 lp3349c5 lp3349c6 lp3349c7 lp3349c8 lp3349c9 lp3349c10 lp3349c11 lp3349c12 lp3349c13 lp3349c14 lp3349c15 lp3349c16 lp3349c17 lp3349c18 lp3349c19 lp3349c20 lp3349c21 lp3349c22 lp3349c23 lp3349c24 lp3349c25 lp3349c26 lp3349c27 lp3349c28 lp3349c29 lp3349c30 lp3349c31 lp3349c32 lp3349c33 lp3349c34 lp3349c35 lp3349c36 lp3349c37 lp3349c38 lp3349c39 lp3349c40 lp3349c41 (by omega) (by omega) (by omega) (by omega) (by omega) (by omega) (by omega) s3492 s3493 s3494 s3495 s3496 s3497 s3498 s3499 s3500 s3501 s3502 s3503 s3504 s3505 s3506 s3507 s3508 s3509 s3510 s3511 s3512 s3513 s3514 s3515 s3516 s3517 s3518 s3519 s3520 s3521 s3522 s3523 s3524 s3525 s3526 s3527 s3528 s3529 s3530 s3531 s3532 lp3349k41 pr3489 hoy3535 (Nat.lt_of_lt_of_eq lp3349w0 sh3488.2.1.symm) ((congrFun sh3488.2.2.2.1 x).trans lp3349w1) ((congrFun sh3488.2.2.2.2.1 x).trans lp3349w2) dd3533) (gLw.s (gLw.s (gLw.s (gLw.s (gLw.n gLw.z)))))
          · refine gy_icF rfl (by decide) (by decide) (by omega) (by omega) hc3538 ?_
            refine gy_s 4 (pc' := 365) (L' := [some (.ref x), some (.int ((zi u) + zi 1)), some (.int (zi v)), some (.int ((zi i) + zi 1)), some (.int (zi jn3536v0))]) (S' := []) (L2 := [some (.ref x), some (.int (zi (u + 1))), some (.int (zi v)), some (.int (zi (i + 1))), some (.int (zi jn3536v0))]) (S2 := []) rfl (by simp only [zi_add, zi_sub, zi_mul, zi_neg, zi_and1, zi_and7, zi_and15, zi_and31, zi_and255]) (by simp only [zi_add, zi_sub, zi_mul, zi_neg, zi_and1, zi_and7, zi_and15, zi_and31, zi_and255]) ?_
            have k3544 := sh3488.2.1
            have k3544b := sh3488.2.2.1
            have G3545 : gSg [1, 2, 3, 4, 5, 6, 7, 8, 9, 10, 11, 12, 13, 14, 15, 16, 17, 18, 19, 20, 21, 22, 23, 24, 25, 26, 27, 28, 29, 30, 31, 32, 33, 34, 35, 36, 37, 38, 39, 40, 41, 42, 200] [x] [8999, 10999, 31999] ty h ty3352 h3488 := gSg.ss lp3349G sh3488 (by decide)
            exact gz_wk (ihlp3349 ty3352 h3488 (u + 1) v (i + 1) (by omega) G3545 lp3349u lp3349c0 lp3349c1 lp3349c2 lp3349c3 lp3349c4 lp3349c5 lp3349c6 lp3349c7 lp3349c8 lp3349c9 lp3349c10 lp3349c11 lp3349c12 lp3349c13 lp3349c14 lp3349c15 lp3349c16 lp3349c17 lp3349c18 lp3349c19 lp3349c20 lp3349c21 lp3349c22 lp3349c23 lp3349c24 lp3349c25 lp3349c26 lp3349c27 lp3349c28 lp3349c29 lp3349c30 lp3349c31 lp3349c32 lp3349c33 lp3349c34 lp3349c35 lp3349c36 lp3349c37 lp3349c38 lp3349c39 lp3349c40 lp3349c41 (by omega) (by omega) (by omega) (by omega) (by omega) (by omega) (by omega) s3492 s3493 s3494 s3495 s3496 s3497 s3498 s3499 s3500 s3501 s3502 s3503 s3504 s3505 s3506 s3507 s3508 s3509 s3510 s3511 s3512 s3513 s3514 s3515 s3516 s3517 s3518 s3519 s3520 s3521 s3522 s3523 s3524 s3525 s3526 s3527 s3528 s3529 s3530 s3531 s3532 lp3349k41 pr3489 hoy3535 (Nat.lt_of_lt_of_eq lp3349w0 sh3488.2.1.symm) ((congrFun sh3488.2.2.2.1 x).trans lp3349w1) ((congrFun sh3488.2.2.2.2.1 x).trans lp3349w2) dd3533) (gLw.s (gLw.s (gLw.s (gLw.s (gLw.n gLw.z)))))
        · refine gy_ifF rfl (by decide) (by decide) (by omega) hc3537 ?_
          refine gz_s 2 (pc' := 413) (L' := [some (.ref x), some (.int (zi u)), some (.int (zi v)), some (.int (zi i)), some (.int (zi jn3536v0))]) (S' := [.int (zi 7), .int (zi u)]) rfl ?_
          by_cases hc3546 : ¬ (u : Int) = 7
          · refine gy_icT (pc' := 422) rfl (by decide) (by decide) (by omega) (by omega) hc3546 ?_
            refine gz_s 1 (pc' := 423) (L' := [some (.ref x), some (.int (zi u)), some (.int (zi v)), some (.int (zi i)), some (.int (zi jn3536v0))]) (S' := [.int (zi v)]) rfl ?_
            by_cases hc3547 : ¬ (v : Int) = 0
            · refine gy_ifT (pc' := 432) rfl (by decide) (by decide) (by omega) hc3547 ?_
              refine gy_s 5 (pc' := 365) (L' := [some (.ref x), some (.int ((zi u) + zi 1)), some (.int ((zi v) + zi (-1))), some (.int ((zi i) + zi 1)), some (.int (zi jn3536v0))]) (S' := []) (L2 := [some (.ref x), some (.int (zi (u + 1))), some (.int (zi (v + (-1)))), some (.int (zi (i + 1))), some (.int (zi jn3536v0))]) (S2 := []) rfl (by simp only [zi_add, zi_sub, zi_mul, zi_neg, zi_and1, zi_and7, zi_and15, zi_and31, zi_and255]) (by simp only [zi_add, zi_sub, zi_mul, zi_neg, zi_and1, zi_and7, zi_and15, zi_and31, zi_and255]) ?_
              have k3548 := sh3488.2.1
              have k3548b := sh3488.2.2.1
              have G3549 : gSg [1, 2, 3, 4, 5, 6, 7, 8, 9, 10, 11, 12, 13, 14, 15, 16, 17, 18, 19, 20, 21, 22, 23, 24, 25, 26, 27, 28, 29, 30, 31, 32, 33, 34, 35, 36, 37, 38, 39, 40, 41, 42, 200] [x] [8999, 10999, 31999] ty h ty3352 h3488 := gSg.ss lp3349G sh3488 (by decide)
              exact gz_wk (ihlp3349 ty3352 h3488 (u + 1) (v + (-1)) (i + 1) (by omega) G3549 lp3349u lp3349c0 lp3349c1 lp3349c2 lp3349c3 lp3349c4 lp3349c5 lp3349c6 lp3349c7 lp3349c8 lp3349c9 lp3349c10 lp3349c11 lp3349c12 lp3349c13 lp3349c14 lp3349c15 lp3349c16 lp3349c17 lp3349c18 lp3349c19 lp3349c20 lp3349c21 lp3349c22 lp3349c23 lp3349c24 lp3349c25 lp3349c26 lp3349c27 lp3349c28 lp3349c29 lp3349c30 lp3349c31 lp3349c32 lp3349c33 lp3349c34 lp3349c35 lp3349c36 lp3349c37 lp3349c38 lp3349c39 lp3349c40 lp3349c41 (by omega) (by omega) (by omega) (by omega) (by omega) (by omega) (by omega) s3492 s3493 s3494 s3495 s3496 s3497 s3498 s3499 s3500 s3501 s3502 s3503 s3504 s3505 s3506 s3507 s3508 s3509 s3510 s3511 s3512 s3513 s3514 s3515 s3516 s3517 s3518 s3519 s3520 s3521 s3522 s3523 s3524 s3525 s3526 s3527 s3528 s3529 s3530 s3531 s3532 lp3349k41 pr3489 hoy3535 (Nat.lt_of_lt_of_eq lp3349w0 sh3488.2.1.symm) ((congrFun sh3488.2.2.2.1 x).trans lp3349w1) ((congrFun sh3488.2.2.2.2.1 x).trans lp3349w2) dd3533) (gLw.s (gLw.s (gLw.s (gLw.s (gLw.n gLw.z)))))
            · refine gy_ifF rfl (by decide) (by decide) (by omega) hc3547 ?_
              refine gy_s 4 (pc' := 365) (L' := [some (.ref x), some (.int ((zi u) + zi 1)), some (.int (zi v)), some (.int ((zi i) + zi 1)), some (.int (zi jn3536v0))]) (S' := []) (L2 := [some (.ref x), some (.int (zi (u + 1))), some (.int (zi v)), some (.int (zi (i + 1))), some (.int (zi jn3536v0))]) (S2 := []) rfl (by simp only [zi_add, zi_sub, zi_mul, zi_neg, zi_and1, zi_and7, zi_and15, zi_and31, zi_and255]) (by simp only [zi_add, zi_sub, zi_mul, zi_neg, zi_and1, zi_and7, zi_and15, zi_and31, zi_and255]) ?_
              have k3550 := sh3488.2.1
              have k3550b := sh3488.2.2.1
              have G3551 : gSg [1, 2, 3, 4, 5, 6, 7, 8, 9, 10, 11, 12, 13, 14, 15, 16, 17, 18, 19, 20, 21, 22, 23, 24, 25, 26, 27, 28, 29, 30, 31, 32, 33, 34, 35, 36, 37, 38, 39, 40, 41, 42, 200] [x] [8999, 10999, 31999] ty h ty3352 h3488 := gSg.ss lp3349G sh3488 (by decide)
              exact gz_wk (ihlp3349 ty3352 h3488 (u + 1) v (i + 1) (by omega) G3551 lp3349u lp3349c0 lp3349c1 lp3349c2 lp3349c3 lp3349c4 lp3349c5 lp3349c6 lp3349c7 lp3349c8 lp3349c9 lp3349c10 lp3349c11 lp3349c12 lp3349c13 lp3349c14 lp3349c15 lp3349c16 lp3349c17 lp3349c18 lp3349c19 lp3349c20 lp3349c21 lp3349c22 lp3349c23 lp3349c24 lp3349c25 lp3349c26 lp3349c27 lp3349c28 lp3349c29 lp3349c30 lp3349c31 lp3349c32 lp3349c33 lp3349c34 lp3349c35 lp3349c36 lp3349c37 lp3349c38 lp3349c39 lp3349c40 lp3349c41 (by omega) (by omega) (by omega) (by omega) (by omega) (by omega) (by omega) s3492 s3493 s3494 s3495 s3496 s3497 s3498 s3499 s3500 s3501 s3502 s3503 s3504 s3505 s3506 s3507 s3508 s3509 s3510 s3511 s3512 s3513 s3514 s3515 s3516 s3517 s3518 s3519 s3520 s3521 s3522 s3523 s3524 s3525 s3526 s3527 s3528 s3529 s3530 s3531 s3532 lp3349k41 pr3489 hoy3535 (Nat.lt_of_lt_of_eq lp3349w0 sh3488.2.1.symm) ((congrFun sh3488.2.2.2.1 x).trans lp3349w1) ((congrFun sh3488.2.2.2.2.1 x).trans lp3349w2) dd3533) (gLw.s (gLw.s (gLw.s (gLw.s (gLw.n gLw.z)))))
          · refine gy_icF rfl (by decide) (by decide) (by omega) (by omega) hc3546 ?_
            refine gy_s 4 (pc' := 365) (L' := [some (.ref x), some (.int (zi u)), some (.int ((zi v) + zi 1)), some (.int ((zi i) + zi 1)), some (.int (zi jn3536v0))]) (S' := []) (L2 := [some (.ref x), some (.int (zi u)), some (.int (zi (v + 1))), some (.int (zi (i + 1))), some (.int (zi jn3536v0))]) (S2 := []) rfl (by simp only [zi_add, zi_sub, zi_mul, zi_neg, zi_and1, zi_and7, zi_and15, zi_and31, zi_and255]) (by simp only [zi_add, zi_sub, zi_mul, zi_neg, zi_and1, zi_and7, zi_and15, zi_and31, zi_and255]) ?_
            have k3552 := sh3488.2.1
            have k3552b := sh3488.2.2.1
            have G3553 : gSg [1, 2, 3, 4, 5, 6, 7, 8, 9, 10, 11, 12, 13, 14, 15, 16, 17, 18, 19, 20, 21, 22, 23, 24, 25, 26, 27, 28, 29, 30, 31, 32, 33, 34, 35, 36, 37, 38, 39, 40, 41, 42, 200] [x] [8999, 10999, 31999] ty h ty3352 h3488 := gSg.ss lp3349G sh3488 (by decide)
            exact gz_wk (ihlp3349 ty3352 h3488 u (v + 1) (i + 1) (by omega) G3553 lp3349u lp3349c0 lp3349c1 lp3349c2 lp3349c3 lp3349c4 lp3349c5 lp3349c6 lp3349c7 lp3349c8 lp3349c9 lp3349c10 lp3349c11 lp3349c12 lp3349c13 lp3349c14 lp3349c15 lp3349c16 lp3349c17 lp3349c18 lp3349c19 lp3349c20 lp3349c21 lp3349c22 lp3349c23 lp3349c24 lp3349c25 lp3349c26 lp3349c27 lp3349c28 lp3349c29 lp3349c30 lp3349c31 lp3349c32 lp3349c33 lp3349c34 lp3349c35 lp3349c36 lp3349c37 lp3349c38 lp3349c39 lp3349c40 lp3349c41 (by omega) (by omega) (by omega) (by omega) (by omega) (by omega) (by omega) s3492 s3493 s3494 s3495 s3496 s3497 s3498 s3499 s3500 s3501 s3502 s3503 s3504 s3505 s3506 s3507 s3508 s3509 s3510 s3511 s3512 s3513 s3514 s3515 s3516 s3517 s3518 s3519 s3520 s3521 s3522 s3523 s3524 s3525 s3526 s3527 s3528 s3529 s3530 s3531 s3532 lp3349k41 pr3489 hoy3535 (Nat.lt_of_lt_of_eq lp3349w0 sh3488.2.1.symm) ((congrFun sh3488.2.2.2.1 x).trans lp3349w1) ((congrFun sh3488.2.2.2.2.1 x).trans lp3349w2) dd3533) (gLw.s (gLw.s (gLw.s (gLw.s (gLw.n gLw.z)))))
      by_cases hc3554 : ¬ ((u + v) % 2 : Int) = 0
      · refine gy_ifT (pc' := 402) rfl (by decide) (by decide) (by omega) hc3554 ?_
        refine gz_s 1 (pc' := 403) (L' := [some (.ref x), some (.int (zi u)), some (.int (zi v)), some (.int (zi i)), none]) (S' := [.int (zi 0)]) rfl ?_
        exact jn3536 0 (by omega)
      · refine gy_ifF rfl (by decide) (by decide) (by omega) hc3554 ?_
        refine gz_s 2 (pc' := 403) (L' := [some (.ref x), some (.int (zi u)), some (.int (zi v)), some (.int (zi i)), none]) (S' := [.int (zi 1)]) rfl ?_
        exact jn3536 1 (by omega)
set_option maxRecDepth 20000 in
set_option maxHeartbeats 4000000 in
theorem cmlp3345 (d : Nat) {ty : Nat → Nat} {h : gH} (hJ : gJ rT 1027 ty h) (x : Nat) (nx : 1027 ≤ x) (c3 c23 c46 c72 c101 c133 c171 c209 c250 c294 c341 c391 c447 c503 c562 c624 c689 c760 c831 c905 c982 c1065 c1148 c1234 c1323 c1420 c1517 c1617 c1723 c1829 c1938 c2053 c2168 c2286 c2410 c2534 c2661 c2794 c2927 c3063 c3205 : Nat) : ∀ (fu : Nat) (ty3347 : Nat → Nat) (h3346 : gH) (k : Int), (257 - k).toNat < fu → gSg [1, 2, 3, 4, 5, 6, 7, 8, 9, 10, 11, 12, 13, 14, 15, 16, 17, 18, 19, 20, 21, 22, 23, 24, 25, 26, 27, 28, 29, 30, 31, 32, 33, 34, 35, 36, 37, 38, 39, 40, 41, 42, 200] [x] [8999, 10999, 31999] ty h ty3347 h3346 → gUq ty3347 → ty3347 x = 200 → ty3347 c3 = 2 → ty3347 c23 = 3 → ty3347 c46 = 4 → ty3347 c72 = 5 → ty3347 c101 = 6 → ty3347 c133 = 7 → ty3347 c171 = 8 → ty3347 c209 = 9 → ty3347 c250 = 10 → ty3347 c294 = 11 → ty3347 c341 = 12 → ty3347 c391 = 13 → ty3347 c447 = 14 → ty3347 c503 = 15 → ty3347 c562 = 16 → ty3347 c624 = 17 → ty3347 c689 = 18 → ty3347 c760 = 19 → ty3347 c831 = 20 → ty3347 c905 = 21 → ty3347 c982 = 22 → ty3347 c1065 = 23 → ty3347 c1148 = 24 → ty3347 c1234 = 25 → ty3347 c1323 = 26 → ty3347 c1420 = 27 → ty3347 c1517 = 28 → ty3347 c1617 = 29 → ty3347 c1723 = 30 → ty3347 c1829 = 31 → ty3347 c1938 = 32 → ty3347 c2053 = 33 → ty3347 c2168 = 34 → ty3347 c2286 = 35 → ty3347 c2410 = 36 → ty3347 c2534 = 37 → ty3347 c2661 = 38 → ty3347 c2794 = 39 → ty3347 c2927 = 40 → ty3347 c3063 = 41 → ty3347 c3205 = 42 → (0 ≤ k ∧ k ≤ 256) → ((h3346.1 : Int) = h.1 + 41) → ((h3346.2.1 : Int) = h.2.1 + 88652) → h3346.2.2.2.2 x 2 = .ref c3 → h3346.2.2.2.2 x 4 = .ref c23 → h3346.2.2.2.2 x 9 = .ref c46 → h3346.2.2.2.2 x 10 = .ref c72 → h3346.2.2.2.2 x 11 = .ref c101 → h3346.2.2.2.2 x 12 = .ref c133 → h3346.2.2.2.2 x 13 = .ref c171 → h3346.2.2.2.2 x 14 = .ref c209 → h3346.2.2.2.2 x 15 = .ref c250 → h3346.2.2.2.2 x 25 = .ref c294 → h3346.2.2.2.2 x 26 = .ref c341 → h3346.2.2.2.2 x 27 = .ref c391 → h3346.2.2.2.2 x 28 = .ref c447 → h3346.2.2.2.2 x 29 = .ref c503 → h3346.2.2.2.2 x 30 = .ref c562 → h3346.2.2.2.2 x 31 = .ref c624 → h3346.2.2.2.2 x 32 = .ref c689 → h3346.2.2.2.2 x 33 = .ref c760 → h3346.2.2.2.2 x 34 = .ref c831 → h3346.2.2.2.2 x 35 = .ref c905 → h3346.2.2.2.2 x 36 = .ref c982 → h3346.2.2.2.2 x 37 = .ref c1065 → h3346.2.2.2.2 x 38 = .ref c1148 → h3346.2.2.2.2 x 40 = .ref c1234 → h3346.2.2.2.2 x 49 = .ref c1323 → h3346.2.2.2.2 x 54 = .ref c1420 → h3346.2.2.2.2 x 55 = .ref c1517 → h3346.2.2.2.2 x 56 = .ref c1617 → h3346.2.2.2.2 x 57 = .ref c1723 → h3346.2.2.2.2 x 58 = .ref c1829 → h3346.2.2.2.2 x 60 = .ref c1938 → h3346.2.2.2.2 x 63 = .ref c2053 → h3346.2.2.2.2 x 65 = .ref c2168 → h3346.2.2.2.2 x 66 = .ref c2286 → h3346.2.2.2.2 x 68 = .ref c2410 → h3346.2.2.2.2 x 69 = .ref c2534 → h3346.2.2.2.2 x 70 = .ref c2661 → h3346.2.2.2.2 x 71 = .ref c2794 → h3346.2.2.2.2 x 72 = .ref c2927 → h3346.2.2.2.2 x 73 = .ref c3063 → h3346.2.2.2.2 x 76 = .ref c3205 → gNo [1] ty3347 → gOyB ty3347 26 0 1024 h3346 → x < h3346.1 → h3346.2.2.1 x = some (.inr 12) → h3346.2.2.2.1 x = 0 → (∀ k, ¬ k ∈ ([76, 73, 72, 71, 70, 69, 68, 66, 65, 63, 60, 58, 57, 56, 55, 54, 49, 40, 38, 37, 36, 35, 34, 33, 32, 31, 30, 29, 28, 27, 26, 25, 15, 14, 13, 12, 11, 10, 9, 4, 2] : List Nat) → h3346.2.2.2.2 x k = defaultValue (gGG.2.1 12 k)) → gz gPP gGG gcn (d + 1) gt130 338 [some (.ref x), some (.int (zi k)), none, none, none] [] h3346 (fun q _ => ∃ ty9 : Nat → Nat, gSg [1, 2, 3, 4, 5, 6, 7, 8, 9, 10, 11, 12, 13, 14, 15, 16, 17, 18, 19, 20, 21, 22, 23, 24, 25, 26, 27, 28, 29, 30, 31, 32, 33, 34, 35, 36, 37, 38, 39, 40, 41, 42, 200] [x] [8999, 10999, 31999] ty h ty9 q.2.2 ∧ ∃ ip n1 cw ch iv1 : Int, ty9 x = 1 ∧ gfin gt130 q.1 q.2.1 = some none ∧ q.2.2.2.2.2.2 x 16 = .int (zi ip) ∧ 0 ≤ ip ∧ ip ≤ 1 ∧ q.2.2.2.2.2.2 x 53 = .int (zi n1) ∧ 0 ≤ n1 ∧ n1 ≤ 10 ∧ q.2.2.2.2.2.2 x 50 = .int (zi cw) ∧ 0 ≤ cw ∧ cw ≤ 32 ∧ q.2.2.2.2.2.2 x 51 = .int (zi ch) ∧ 0 ≤ ch ∧ ch ≤ 32 ∧ q.2.2.2.2.2.2 x 52 = .int (zi iv1) ∧ 0 ≤ iv1 ∧ iv1 ≤ 100 ∧ (ip = 0) ∧ (n1 = 0) ∧ (cw = 0) ∧ (ch = 0) ∧ (iv1 = 0) ∧ ((q.2.2.1 : Int) = h.1 + 41) ∧ ((q.2.2.2.1 : Int) = h.2.1 + 88652) ∧ (gTs ty9 0 q.2.2) ∧ (gOyB ty9 26 0 1024 q.2.2) ∧ gUq ty9) := by
  intro fu
  induction fu with
  | zero => intro ty3347 h3346 k hm; exact absurd hm (Nat.not_lt_zero _)
  | succ fu ihlp3345 =>
    intro ty3347 h3346 k lp3345m lp3345G lp3345u lp3345c0 lp3345c1 lp3345c2 lp3345c3 lp3345c4 lp3345c5 lp3345c6 lp3345c7 lp3345c8 lp3345c9 lp3345c10 lp3345c11 lp3345c12 lp3345c13 lp3345c14 lp3345c15 lp3345c16 lp3345c17 lp3345c18 lp3345c19 lp3345c20 lp3345c21 lp3345c22 lp3345c23 lp3345c24 lp3345c25 lp3345c26 lp3345c27 lp3345c28 lp3345c29 lp3345c30 lp3345c31 lp3345c32 lp3345c33 lp3345c34 lp3345c35 lp3345c36 lp3345c37 lp3345c38 lp3345c39 lp3345c40 lp3345c41 lp3345f0 lp3345f1 lp3345f2 lp3345k0 lp3345k1 lp3345k2 lp3345k3 lp3345k4 lp3345k5 lp3345k6 lp3345k7 lp3345k8 lp3345k9 lp3345k10 lp3345k11 lp3345k12 lp3345k13 lp3345k14 lp3345k15 lp3345k16 lp3345k17 lp3345k18 lp3345k19 lp3345k20 lp3345k21 lp3345k22 lp3345k23 lp3345k24 lp3345k25 lp3345k26 lp3345k27 lp3345k28 lp3345k29 lp3345k30 lp3345k31 lp3345k32 lp3345k33 lp3345k34 lp3345k35 lp3345k36 lp3345k37 lp3345k38 lp3345k39 lp3345k40 lp3345k41 lp3345k42 lp3345w0 lp3345w1 lp3345w2 lp3345w3
    have sh3346 : gSs rT 1027 ty3347 [8999, 10999, 31999] h3346 h3346 := gSs.rf lp3345G.1
    refine gz_s 2 (pc' := 342) (L' := [some (.ref x), some (.int (zi k)), none, none, none]) (S' := [.int (zi 256), .int (zi k)]) rfl ?_
    by_cases hc3348 : (256 : Int) ≤ k
    · refine gy_icT (pc' := 359) rfl (by decide) (by decide) (by omega) (by omega) hc3348 ?_
      refine gz_s 6 (pc' := 365) (L' := [some (.ref x), some (.int (zi 0)), some (.int (zi 0)), some (.int (zi 0)), none]) (S' := []) rfl ?_
      have hoy3350 : gOy ty3347 31 (-1) 0 h3346 := ⟨_, gRow.mk lp3345u lp3345c30 (by decide) (fun _ => rfl), fun j hj => absurd hj (by omega)⟩
      have lp3349 := cmlp3349 d hJ x nx c3 c23 c46 c72 c101 c133 c171 c209 c250 c294 c341 c391 c447 c503 c562 c624 c689 c760 c831 c905 c982 c1065 c1148 c1234 c1323 c1420 c1517 c1617 c1723 c1829 c1938 c2053 c2168 c2286 c2410 c2534 c2661 c2794 c2927 c3063 c3205
      have hz0 : gzu (0 : Int).toNat = 0 := rfl
      have hz1 : gzv (0 : Int).toNat = 0 := rfl
      have G3555 : gSg [1, 2, 3, 4, 5, 6, 7, 8, 9, 10, 11, 12, 13, 14, 15, 16, 17, 18, 19, 20, 21, 22, 23, 24, 25, 26, 27, 28, 29, 30, 31, 32, 33, 34, 35, 36, 37, 38, 39, 40, 41, 42, 200] [x] [8999, 10999, 31999] ty h ty3347 h3346 := gSg.ss lp3345G sh3346 (by decide)
      exact gz_wk (lp3349 _ ty3347 h3346 0 0 0 (Nat.lt_succ_self _) G3555 lp3345u lp3345c0 lp3345c1 lp3345c2 lp3345c3 lp3345c4 lp3345c5 lp3345c6 lp3345c7 lp3345c8 lp3345c9 lp3345c10 lp3345c11 lp3345c12 lp3345c13 lp3345c14 lp3345c15 lp3345c16 lp3345c17 lp3345c18 lp3345c19 lp3345c20 lp3345c21 lp3345c22 lp3345c23 lp3345c24 lp3345c25 lp3345c26 lp3345c27 lp3345c28 lp3345c29 lp3345c30 lp3345c31 lp3345c32 lp3345c33 lp3345c34 lp3345c35 lp3345c36 lp3345c37 lp3345c38 lp3345c39 lp3345c40 lp3345c41 (by omega) (by omega) (by omega) (by omega) (by omega) (by omega) (by omega) lp3345k0 lp3345k1 lp3345k2 lp3345k3 lp3345k4 lp3345k5 lp3345k6 lp3345k7 lp3345k8 lp3345k9 lp3345k10 lp3345k11 lp3345k12 lp3345k13 lp3345k14 lp3345k15 lp3345k16 lp3345k17 lp3345k18 lp3345k19 lp3345k20 lp3345k21 lp3345k22 lp3345k23 lp3345k24 lp3345k25 lp3345k26 lp3345k27 lp3345k28 lp3345k29 lp3345k30 lp3345k31 lp3345k32 lp3345k33 lp3345k34 lp3345k35 lp3345k36 lp3345k37 lp3345k38 lp3345k39 lp3345k40 lp3345k41 lp3345k42 hoy3350 lp3345w0 lp3345w1 lp3345w2 lp3345w3) (gLw.s (gLw.s (gLw.s (gLw.s (gLw.n gLw.z)))))
    · refine gy_icF rfl (by decide) (by decide) (by omega) (by omega) hc3348 ?_
      refine gz_s 1 (pc' := 346) (L' := [some (.ref x), some (.int (zi k)), none, none, none]) (S' := [.ref x]) rfl ?_
      refine gz_get rfl (by decide) rfl nx lp3345w0 lp3345w1 lp3345k6 ?_
      refine gz_s 2 (pc' := 352) (L' := [some (.ref x), some (.int (zi k)), none, none, none]) (S' := [.int (zi 16), .int (zi k), .ref c171]) rfl ?_
      have hl3556 : 256 ≤ h3346.2.2.2.1 c171 ∧ h3346.2.2.2.1 c171 ≤ 256 := gJ.rowl (G := gGG) sh3346.1 lp3345c7 rfl
      refine gs_ast rfl (by decide) sh3346 lp3345c7 rfl rfl rfl (by decide) (fun _ => rfl) (by omega) (by omega) (fun _ => (by decide : (8999 : Nat) ∈ ([8999, 10999, 31999] : List Nat))) (by omega) (by omega) (fun h3557 sh3557 eh3557 fh3557 => ?_)
      have pr3558 := gOyB.pt fh3557 lp3345c7 (by decide) lp3345k42
      have s3559 := (fh3557 x 2 (fun q => absurd (((lp3345c0).symm.trans (congrArg ty3347 q.1)).trans lp3345c7) (by decide))).trans lp3345k0
      have s3560 := (fh3557 x 4 (fun q => absurd (((lp3345c0).symm.trans (congrArg ty3347 q.1)).trans lp3345c7) (by decide))).trans lp3345k1
      have s3561 := (fh3557 x 9 (fun q => absurd (((lp3345c0).symm.trans (congrArg ty3347 q.1)).trans lp3345c7) (by decide))).trans lp3345k2
      have s3562 := (fh3557 x 10 (fun q => absurd (((lp3345c0).symm.trans (congrArg ty3347 q.1)).trans lp3345c7) (by decide))).trans lp3345k3
      have s3563 := (fh3557 x 11 (fun q => absurd (((lp3345c0).symm.trans (congrArg ty3347 q.1)).trans lp3345c7) (by decide))).trans lp3345k4
      have s3564 := (fh3557 x 12 (fun q => absurd (((lp3345c0).symm.trans (congrArg ty3347 q.1)).trans lp3345c7) (by decide))).trans lp3345k5
      have s3565 := (fh3557 x 13 (fun q => absurd (((lp3345c0).symm.trans (congrArg ty3347 q.1)).trans lp3345c7) (by decide))).trans lp3345k6
      have s3566 := (fh3557 x 14 (fun q => absurd (((lp3345c0).symm.trans (congrArg ty3347 q.1)).trans lp3345c7) (by decide))).trans lp3345k7
      have s3567 := (fh3557 x 15 (fun q => absurd (((lp3345c0).symm.trans (congrArg ty3347 q.1)).trans lp3345c7) (by decide))).trans lp3345k8
      have s3568 := (fh3557 x 25 (fun q => absurd (((lp3345c0).symm.trans (congrArg ty3347 q.1)).trans lp3345c7) (by decide))).trans lp3345k9
      have s3569 := (fh3557 x 26 (fun q => absurd (((lp3345c0).symm.trans (congrArg ty3347 q.1)).trans lp3345c7) (by decide))).trans lp3345k10
      have s3570 := (fh3557 x 27 (fun q => absurd (((lp3345c0).symm.trans (congrArg ty3347 q.1)).trans lp3345c7) (by decide))).trans lp3345k11
      have s3571 := (fh3557 x 28 (fun q => absurd (((lp3345c0).symm.trans (congrArg ty3347 q.1)).trans lp3345c7) (by decide))).trans lp3345k12
      have s3572 := (fh3557 x 29 (fun q => absurd (((lp3345c0).symm.trans (congrArg ty3347 q.1)).trans lp3345c7) (by decide))).trans lp3345k13
      have s3573 := (fh3557 x 30 (fun q => absurd (((lp3345c0).symm.trans (congrArg ty3347 q.1)).trans lp3345c7) (by decide))).trans lp3345k14
      have s3574 := (fh3557 x 31 (fun q => absurd (((lp3345c0).symm.trans (congrArg ty3347 q.1)).trans lp3345c7) (by decide))).trans lp3345k15
      have s3575 := (fh3557 x 32 (fun q => absurd (((lp3345c0).symm.trans (congrArg ty3347 q.1)).trans lp3345c7) (by decide))).trans lp3345k16
      have s3576 := (fh3557 x 33 (fun q => absurd (((lp3345c0).symm.trans (congrArg ty3347 q.1)).trans lp3345c7) (by decide))).trans lp3345k17
      have s3577 := (fh3557 x 34 (fun q => absurd (((lp3345c0).symm.trans (congrArg ty3347 q.1)).trans lp3345c7) (by decide))).trans lp3345k18
      have s3578 := (fh3557 x 35 (fun q => absurd (((lp3345c0).symm.trans (congrArg ty3347 q.1)).trans lp3345c7) (by decide))).trans lp3345k19
      have s3579 := (fh3557 x 36 (fun q => absurd (((lp3345c0).symm.trans (congrArg ty3347 q.1)).trans lp3345c7) (by decide))).trans lp3345k20
      have s3580 := (fh3557 x 37 (fun q => absurd (((lp3345c0).symm.trans (congrArg ty3347 q.1)).trans lp3345c7) (by decide))).trans lp3345k21
      have s3581 := (fh3557 x 38 (fun q => absurd (((lp3345c0).symm.trans (congrArg ty3347 q.1)).trans lp3345c7) (by decide))).trans lp3345k22
      have s3582 := (fh3557 x 40 (fun q => absurd (((lp3345c0).symm.trans (congrArg ty3347 q.1)).trans lp3345c7) (by decide))).trans lp3345k23
      have s3583 := (fh3557 x 49 (fun q => absurd (((lp3345c0).symm.trans (congrArg ty3347 q.1)).trans lp3345c7) (by decide))).trans lp3345k24
      have s3584 := (fh3557 x 54 (fun q => absurd (((lp3345c0).symm.trans (congrArg ty3347 q.1)).trans lp3345c7) (by decide))).trans lp3345k25
      have s3585 := (fh3557 x 55 (fun q => absurd (((lp3345c0).symm.trans (congrArg ty3347 q.1)).trans lp3345c7) (by decide))).trans lp3345k26
      have s3586 := (fh3557 x 56 (fun q => absurd (((lp3345c0).symm.trans (congrArg ty3347 q.1)).trans lp3345c7) (by decide))).trans lp3345k27
      have s3587 := (fh3557 x 57 (fun q => absurd (((lp3345c0).symm.trans (congrArg ty3347 q.1)).trans lp3345c7) (by decide))).trans lp3345k28
      have s3588 := (fh3557 x 58 (fun q => absurd (((lp3345c0).symm.trans (congrArg ty3347 q.1)).trans lp3345c7) (by decide))).trans lp3345k29
      have s3589 := (fh3557 x 60 (fun q => absurd (((lp3345c0).symm.trans (congrArg ty3347 q.1)).trans lp3345c7) (by decide))).trans lp3345k30
      have s3590 := (fh3557 x 63 (fun q => absurd (((lp3345c0).symm.trans (congrArg ty3347 q.1)).trans lp3345c7) (by decide))).trans lp3345k31
      have s3591 := (fh3557 x 65 (fun q => absurd (((lp3345c0).symm.trans (congrArg ty3347 q.1)).trans lp3345c7) (by decide))).trans lp3345k32
      have s3592 := (fh3557 x 66 (fun q => absurd (((lp3345c0).symm.trans (congrArg ty3347 q.1)).trans lp3345c7) (by decide))).trans lp3345k33
      have s3593 := (fh3557 x 68 (fun q => absurd (((lp3345c0).symm.trans (congrArg ty3347 q.1)).trans lp3345c7) (by decide))).trans lp3345k34
      have s3594 := (fh3557 x 69 (fun q => absurd (((lp3345c0).symm.trans (congrArg ty3347 q.1)).trans lp3345c7) (by decide))).trans lp3345k35
      have s3595 := (fh3557 x 70 (fun q => absurd (((lp3345c0).symm.trans (congrArg ty3347 q.1)).trans lp3345c7) (by decide))).trans lp3345k36
      have s3596 := (fh3557 x 71 (fun q => absurd (((lp3345c0).symm.trans (congrArg ty3347 q.1)).trans lp3345c7) (by decide))).trans lp3345k37
      have s3597 := (fh3557 x 72 (fun q => absurd (((lp3345c0).symm.trans (congrArg ty3347 q.1)).trans lp3345c7) (by decide))).trans lp3345k38
      have s3598 := (fh3557 x 73 (fun q => absurd (((lp3345c0).symm.trans (congrArg ty3347 q.1)).trans lp3345c7) (by decide))).trans lp3345k39
      have s3599 := (fh3557 x 76 (fun q => absurd (((lp3345c0).symm.trans (congrArg ty3347 q.1)).trans lp3345c7) (by decide))).trans lp3345k40
      have dd3600 : ∀ k, ¬ k ∈ ([76, 73, 72, 71, 70, 69, 68, 66, 65, 63, 60, 58, 57, 56, 55, 54, 49, 40, 38, 37, 36, 35, 34, 33, 32, 31, 30, 29, 28, 27, 26, 25, 15, 14, 13, 12, 11, 10, 9, 4, 2] : List Nat) → h3557.2.2.2.2 x k = defaultValue (gGG.2.1 12 k) := fun k hk => (fh3557 x k (fun q => absurd (((lp3345c0).symm.trans (congrArg ty3347 q.1)).trans lp3345c7) (by decide))).trans (lp3345w3 k hk)
      have pr3601 := gEl.set (i := k) (z := 16) lp3345u lp3345c7 (by decide) eh3557 (by omega) (by omega)
      refine gy_s 2 (pc' := 338) (L' := [some (.ref x), some (.int ((zi k) + zi 1)), none, none, none]) (S' := []) (L2 := [some (.ref x), some (.int (zi (k + 1))), none, none, none]) (S2 := []) rfl (by simp only [zi_add, zi_sub, zi_mul, zi_neg, zi_and1, zi_and7, zi_and15, zi_and31, zi_and255]) (by simp only [zi_add, zi_sub, zi_mul, zi_neg, zi_and1, zi_and7, zi_and15, zi_and31, zi_and255]) ?_
      have k3602 := sh3557.2.1
      have k3602b := sh3557.2.2.1
      have G3603 : gSg [1, 2, 3, 4, 5, 6, 7, 8, 9, 10, 11, 12, 13, 14, 15, 16, 17, 18, 19, 20, 21, 22, 23, 24, 25, 26, 27, 28, 29, 30, 31, 32, 33, 34, 35, 36, 37, 38, 39, 40, 41, 42, 200] [x] [8999, 10999, 31999] ty h ty3347 h3557 := gSg.ss lp3345G sh3557 (by decide)
      exact gz_wk (ihlp3345 ty3347 h3557 (k + 1) (by omega) G3603 lp3345u lp3345c0 lp3345c1 lp3345c2 lp3345c3 lp3345c4 lp3345c5 lp3345c6 lp3345c7 lp3345c8 lp3345c9 lp3345c10 lp3345c11 lp3345c12 lp3345c13 lp3345c14 lp3345c15 lp3345c16 lp3345c17 lp3345c18 lp3345c19 lp3345c20 lp3345c21 lp3345c22 lp3345c23 lp3345c24 lp3345c25 lp3345c26 lp3345c27 lp3345c28 lp3345c29 lp3345c30 lp3345c31 lp3345c32 lp3345c33 lp3345c34 lp3345c35 lp3345c36 lp3345c37 lp3345c38 lp3345c39 lp3345c40 lp3345c41 (by omega) (by omega) (by omega) s3559 s3560 s3561 s3562 s3563 s3564 s3565 s3566 s3567 s3568 s3569 s3570 s3571 s3572 s3573 s3574 s3575 s3576 s3577 s3578 s3579 s3580 s3581 s3582 s3583 s3584 s3585 s3586 s3587 s3588 s3589 s3590 s3591 s3592 s3593 s3594 s3595 s3596 s3597 s3598 s3599 lp3345k41 pr3558 (Nat.lt_of_lt_of_eq lp3345w0 sh3557.2.1.symm) ((congrFun sh3557.2.2.2.1 x).trans lp3345w1) ((congrFun sh3557.2.2.2.2.1 x).trans lp3345w2) dd3600) (gLw.s (gLw.s (gLw.n (gLw.n (gLw.n gLw.z)))))
set_option maxRecDepth 20000 in
set_option maxHeartbeats 4000000 in
theorem cmlp3200 (d : Nat) {ty : Nat → Nat} {h : gH} (hJ : gJ rT 1027 ty h) (x : Nat) (nx : 1027 ≤ x) (c3 c23 c46 c72 c101 c133 c171 c209 c250 c294 c341 c391 c447 c503 c562 c624 c689 c760 c831 c905 c982 c1065 c1148 c1234 c1323 c1420 c1517 c1617 c1723 c1829 c1938 c2053 c2168 c2286 c2410 c2534 c2661 c2794 c2927 c3063 : Nat) : ∀ (fu : Nat) (ty3202 : Nat → Nat) (h3201 : gH), ((1 : Int)).toNat < fu → gSg [1, 2, 3, 4, 5, 6, 7, 8, 9, 10, 11, 12, 13, 14, 15, 16, 17, 18, 19, 20, 21, 22, 23, 24, 25, 26, 27, 28, 29, 30, 31, 32, 33, 34, 35, 36, 37, 38, 39, 40, 41, 42, 200] [x] [8999, 10999, 31999] ty h ty3202 h3201 → gUq ty3202 → ty3202 x = 200 → ty3202 c3 = 2 → ty3202 c23 = 3 → ty3202 c46 = 4 → ty3202 c72 = 5 → ty3202 c101 = 6 → ty3202 c133 = 7 → ty3202 c171 = 8 → ty3202 c209 = 9 → ty3202 c250 = 10 → ty3202 c294 = 11 → ty3202 c341 = 12 → ty3202 c391 = 13 → ty3202 c447 = 14 → ty3202 c503 = 15 → ty3202 c562 = 16 → ty3202 c624 = 17 → ty3202 c689 = 18 → ty3202 c760 = 19 → ty3202 c831 = 20 → ty3202 c905 = 21 → ty3202 c982 = 22 → ty3202 c1065 = 23 → ty3202 c1148 = 24 → ty3202 c1234 = 25 → ty3202 c1323 = 26 → ty3202 c1420 = 27 → ty3202 c1517 = 28 → ty3202 c1617 = 29 → ty3202 c1723 = 30 → ty3202 c1829 = 31 → ty3202 c1938 = 32 → ty3202 c2053 = 33 → ty3202 c2168 = 34 → ty3202 c2286 = 35 → ty3202 c2410 = 36 → ty3202 c2534 = 37 → ty3202 c2661 = 38 → ty3202 c2794 = 39 → ty3202 c2927 = 40 → ty3202 c3063 = 41 → ((h3201.1 : Int) = h.1 + 40) → ((h3201.2.1 : Int) = h.2.1 + 88588) → h3201.2.2.2.2 x 2 = .ref c3 → h3201.2.2.2.2 x 4 = .ref c23 → h3201.2.2.2.2 x 9 = .ref c46 → h3201.2.2.2.2 x 10 = .ref c72 → h3201.2.2.2.2 x 11 = .ref c101 → h3201.2.2.2.2 x 12 = .ref c133 → h3201.2.2.2.2 x 13 = .ref c171 → h3201.2.2.2.2 x 14 = .ref c209 → h3201.2.2.2.2 x 15 = .ref c250 → h3201.2.2.2.2 x 25 = .ref c294 → h3201.2.2.2.2 x 26 = .ref c341 → h3201.2.2.2.2 x 27 = .ref c391 → h3201.2.2.2.2 x 28 = .ref c447 → h3201.2.2.2.2 x 29 = .ref c503 → h3201.2.2.2.2 x 30 = .ref c562 → h3201.2.2.2.2 x 31 = .ref c624 → h3201.2.2.2.2 x 32 = .ref c689 → h3201.2.2.2.2 x 33 = .ref c760 → h3201.2.2.2.2 x 34 = .ref c831 → h3201.2.2.2.2 x 35 = .ref c905 → h3201.2.2.2.2 x 36 = .ref c982 → h3201.2.2.2.2 x 37 = .ref c1065 → h3201.2.2.2.2 x 38 = .ref c1148 → h3201.2.2.2.2 x 40 = .ref c1234 → h3201.2.2.2.2 x 49 = .ref c1323 → h3201.2.2.2.2 x 54 = .ref c1420 → h3201.2.2.2.2 x 55 = .ref c1517 → h3201.2.2.2.2 x 56 = .ref c1617 → h3201.2.2.2.2 x 57 = .ref c1723 → h3201.2.2.2.2 x 58 = .ref c1829 → h3201.2.2.2.2 x 60 = .ref c1938 → h3201.2.2.2.2 x 63 = .ref c2053 → h3201.2.2.2.2 x 65 = .ref c2168 → h3201.2.2.2.2 x 66 = .ref c2286 → h3201.2.2.2.2 x 68 = .ref c2410 → h3201.2.2.2.2 x 69 = .ref c2534 → h3201.2.2.2.2 x 70 = .ref c2661 → h3201.2.2.2.2 x 71 = .ref c2794 → h3201.2.2.2.2 x 72 = .ref c2927 → h3201.2.2.2.2 x 73 = .ref c3063 → gNo [1, 42] ty3202 → gOyB ty3202 26 0 1024 h3201 → x < h3201.1 → h3201.2.2.1 x = some (.inr 12) → h3201.2.2.2.1 x = 0 → (∀ k, ¬ k ∈ ([73, 72, 71, 70, 69, 68, 66, 65, 63, 60, 58, 57, 56, 55, 54, 49, 40, 38, 37, 36, 35, 34, 33, 32, 31, 30, 29, 28, 27, 26, 25, 15, 14, 13, 12, 11, 10, 9, 4, 2] : List Nat) → h3201.2.2.2.2 x k = defaultValue (gGG.2.1 12 k)) → gz gPP gGG gcn (d + 1) gt130 328 [some (.ref x), none, none, none, none] [] h3201 (fun q _ => ∃ ty9 : Nat → Nat, gSg [1, 2, 3, 4, 5, 6, 7, 8, 9, 10, 11, 12, 13, 14, 15, 16, 17, 18, 19, 20, 21, 22, 23, 24, 25, 26, 27, 28, 29, 30, 31, 32, 33, 34, 35, 36, 37, 38, 39, 40, 41, 42, 200] [x] [8999, 10999, 31999] ty h ty9 q.2.2 ∧ ∃ ip n1 cw ch iv1 : Int, ty9 x = 1 ∧ gfin gt130 q.1 q.2.1 = some none ∧ q.2.2.2.2.2.2 x 16 = .int (zi ip) ∧ 0 ≤ ip ∧ ip ≤ 1 ∧ q.2.2.2.2.2.2 x 53 = .int (zi n1) ∧ 0 ≤ n1 ∧ n1 ≤ 10 ∧ q.2.2.2.2.2.2 x 50 = .int (zi cw) ∧ 0 ≤ cw ∧ cw ≤ 32 ∧ q.2.2.2.2.2.2 x 51 = .int (zi ch) ∧ 0 ≤ ch ∧ ch ≤ 32 ∧ q.2.2.2.2.2.2 x 52 = .int (zi iv1) ∧ 0 ≤ iv1 ∧ iv1 ≤ 100 ∧ (ip = 0) ∧ (n1 = 0) ∧ (cw = 0) ∧ (ch = 0) ∧ (iv1 = 0) ∧ ((q.2.2.1 : Int) = h.1 + 41) ∧ ((q.2.2.2.1 : Int) = h.2.1 + 88652) ∧ (gTs ty9 0 q.2.2) ∧ (gOyB ty9 26 0 1024 q.2.2) ∧ gUq ty9) := by
  intro fu
  induction fu with
  | zero => intro ty3202 h3201  hm; exact absurd hm (Nat.not_lt_zero _)
  | succ fu ihlp3200 =>
    intro ty3202 h3201  lp3200m lp3200G lp3200u lp3200c0 lp3200c1 lp3200c2 lp3200c3 lp3200c4 lp3200c5 lp3200c6 lp3200c7 lp3200c8 lp3200c9 lp3200c10 lp3200c11 lp3200c12 lp3200c13 lp3200c14 lp3200c15 lp3200c16 lp3200c17 lp3200c18 lp3200c19 lp3200c20 lp3200c21 lp3200c22 lp3200c23 lp3200c24 lp3200c25 lp3200c26 lp3200c27 lp3200c28 lp3200c29 lp3200c30 lp3200c31 lp3200c32 lp3200c33 lp3200c34 lp3200c35 lp3200c36 lp3200c37 lp3200c38 lp3200c39 lp3200c40 lp3200f0 lp3200f1 lp3200k0 lp3200k1 lp3200k2 lp3200k3 lp3200k4 lp3200k5 lp3200k6 lp3200k7 lp3200k8 lp3200k9 lp3200k10 lp3200k11 lp3200k12 lp3200k13 lp3200k14 lp3200k15 lp3200k16 lp3200k17 lp3200k18 lp3200k19 lp3200k20 lp3200k21 lp3200k22 lp3200k23 lp3200k24 lp3200k25 lp3200k26 lp3200k27 lp3200k28 lp3200k29 lp3200k30 lp3200k31 lp3200k32 lp3200k33 lp3200k34 lp3200k35 lp3200k36 lp3200k37 lp3200k38 lp3200k39 lp3200k40 lp3200k41 lp3200w0 lp3200w1 lp3200w2 lp3200w3
    have sh3201 : gSs rT 1027 ty3202 [8999, 10999, 31999] h3201 h3201 := gSs.rf lp3200G.1
    refine gz_s 2 (pc' := 331) (L' := [some (.ref x), none, none, none, none]) (S' := [.int (zi 64), .ref x]) rfl ?_
    refine gs_newr 42 rfl (by decide) rfl sh3201.1 (Nat.le_of_lt (Nat.lt_of_le_of_lt (gJ.cell sh3201.1 lp3200c1 rfl).1 (gJ.cell sh3201.1 lp3200c1 rfl).2.1)) (by omega) (by omega) rfl rfl (by show (64 : Int) ≤ _; omega) (by show _ ≤ (64 : Int); omega) (fun _ _ => gos_i (by decide) (by decide)) (fun ty3203 h3204 c3205 g3206 tc3205 lc3205 nc3205 mc3205 ec3205 dc3205 uc3205 => ?_)
    have gac3205 : h.1 ≤ c3205 := by have h8 := lp3200G.2.1; have h9 := sh3201.2.1; omega
    have uq3207 := uc3205 lp3200u (Or.inr (gNo.sub (by decide +kernel) lp3200k40))
    have G3208 : gSg [1, 2, 3, 4, 5, 6, 7, 8, 9, 10, 11, 12, 13, 14, 15, 16, 17, 18, 19, 20, 21, 22, 23, 24, 25, 26, 27, 28, 29, 30, 31, 32, 33, 34, 35, 36, 37, 38, 39, 40, 41, 42, 200] [x] [8999, 10999, 31999] ty h ty3203 h3204 := gSg.tr (gSg.ss lp3200G sh3201 (by decide)) g3206 (by decide) (by decide) (fun x hx => by cases hx)
    have rw3209 := gSg.raw g3206 lp3200w0 (fun w => by cases w)
    have rf3210 := (rw3209.2.2.1.trans lp3200w1)
    have rf3211 := (rw3209.2.2.2.trans lp3200w2)
    have dd3212 := gSg.rawd (ci := 12) (ps := [73, 72, 71, 70, 69, 68, 66, 65, 63, 60, 58, 57, 56, 55, 54, 49, 40, 38, 37, 36, 35, 34, 33, 32, 31, 30, 29, 28, 27, 26, 25, 15, 14, 13, 12, 11, 10, 9, 4, 2]) g3206 lp3200w0 (fun w => by cases w) lp3200c0 (by decide) lp3200w3
    have t3213 : ty3203 x = 200 := rw3209.1.trans lp3200c0
    have t3214 : ty3203 c3 = 2 := gSg.typ g3206 sh3201.1 lp3200c1 rTk_2
    have t3215 : ty3203 c23 = 3 := gSg.typ g3206 sh3201.1 lp3200c2 rTk_3
    have t3216 : ty3203 c46 = 4 := gSg.typ g3206 sh3201.1 lp3200c3 rTk_4
    have t3217 : ty3203 c72 = 5 := gSg.typ g3206 sh3201.1 lp3200c4 rTk_5
    have t3218 : ty3203 c101 = 6 := gSg.typ g3206 sh3201.1 lp3200c5 rTk_6
    have t3219 : ty3203 c133 = 7 := gSg.typ g3206 sh3201.1 lp3200c6 rTk_7
    have t3220 : ty3203 c171 = 8 := gSg.typ g3206 sh3201.1 lp3200c7 rTk_8
    have t3221 : ty3203 c209 = 9 := gSg.typ g3206 sh3201.1 lp3200c8 rTk_9
    have t3222 : ty3203 c250 = 10 := gSg.typ g3206 sh3201.1 lp3200c9 rTk_10
    have t3223 : ty3203 c294 = 11 := gSg.typ g3206 sh3201.1 lp3200c10 rTk_11
    have t3224 : ty3203 c341 = 12 := gSg.typ g3206 sh3201.1 lp3200c11 rTk_12
    have t3225 : ty3203 c391 = 13 := gSg.typ g3206 sh3201.1 lp3200c12 rTk_13
    have t3226 : ty3203 c447 = 14 := gSg.typ g3206 sh3201.1 lp3200c13 rTk_14
    have t3227 : ty3203 c503 = 15 := gSg.typ g3206 sh3201.1 lp3200c14 rTk_15
    have t3228 : ty3203 c562 = 16 := gSg.typ g3206 sh3201.1 lp3200c15 rTk_16
    have t3229 : ty3203 c624 = 17 := gSg.typ g3206 sh3201.1 lp3200c16 rTk_17
    have t3230 : ty3203 c689 = 18 := gSg.typ g3206 sh3201.1 lp3200c17 rTk_18
    have t3231 : ty3203 c760 = 19 := gSg.typ g3206 sh3201.1 lp3200c18 rTk_19
    have t3232 : ty3203 c831 = 20 := gSg.typ g3206 sh3201.1 lp3200c19 rTk_20
    have t3233 : ty3203 c905 = 21 := gSg.typ g3206 sh3201.1 lp3200c20 rTk_21
    have t3234 : ty3203 c982 = 22 := gSg.typ g3206 sh3201.1 lp3200c21 rTk_22
    have t3235 : ty3203 c1065 = 23 := gSg.typ g3206 sh3201.1 lp3200c22 rTk_23
    have t3236 : ty3203 c1148 = 24 := gSg.typ g3206 sh3201.1 lp3200c23 rTk_24
    have t3237 : ty3203 c1234 = 25 := gSg.typ g3206 sh3201.1 lp3200c24 rTk_25
    have t3238 : ty3203 c1323 = 26 := gSg.typ g3206 sh3201.1 lp3200c25 rTk_26
    have t3239 : ty3203 c1420 = 27 := gSg.typ g3206 sh3201.1 lp3200c26 rTk_27
    have t3240 : ty3203 c1517 = 28 := gSg.typ g3206 sh3201.1 lp3200c27 rTk_28
    have t3241 : ty3203 c1617 = 29 := gSg.typ g3206 sh3201.1 lp3200c28 rTk_29
    have t3242 : ty3203 c1723 = 30 := gSg.typ g3206 sh3201.1 lp3200c29 rTk_30
    have t3243 : ty3203 c1829 = 31 := gSg.typ g3206 sh3201.1 lp3200c30 rTk_31
    have t3244 : ty3203 c1938 = 32 := gSg.typ g3206 sh3201.1 lp3200c31 rTk_32
    have t3245 : ty3203 c2053 = 33 := gSg.typ g3206 sh3201.1 lp3200c32 rTk_33
    have t3246 : ty3203 c2168 = 34 := gSg.typ g3206 sh3201.1 lp3200c33 rTk_34
    have t3247 : ty3203 c2286 = 35 := gSg.typ g3206 sh3201.1 lp3200c34 rTk_35
    have t3248 : ty3203 c2410 = 36 := gSg.typ g3206 sh3201.1 lp3200c35 rTk_36
    have t3249 : ty3203 c2534 = 37 := gSg.typ g3206 sh3201.1 lp3200c36 rTk_37
    have t3250 : ty3203 c2661 = 38 := gSg.typ g3206 sh3201.1 lp3200c37 rTk_38
    have t3251 : ty3203 c2794 = 39 := gSg.typ g3206 sh3201.1 lp3200c38 rTk_39
    have t3252 : ty3203 c2927 = 40 := gSg.typ g3206 sh3201.1 lp3200c39 rTk_40
    have t3253 : ty3203 c3063 = 41 := gSg.typ g3206 sh3201.1 lp3200c40 rTk_41
    have s3254 := gSg.rawat g3206 lp3200w0 (fun w => by cases w) lp3200c0 (by decide) lp3200k0
    have s3255 := gSg.rawat g3206 lp3200w0 (fun w => by cases w) lp3200c0 (by decide) lp3200k1
    have s3256 := gSg.rawat g3206 lp3200w0 (fun w => by cases w) lp3200c0 (by decide) lp3200k2
    have s3257 := gSg.rawat g3206 lp3200w0 (fun w => by cases w) lp3200c0 (by decide) lp3200k3
    have s3258 := gSg.rawat g3206 lp3200w0 (fun w => by cases w) lp3200c0 (by decide) lp3200k4
    have s3259 := gSg.rawat g3206 lp3200w0 (fun w => by cases w) lp3200c0 (by decide) lp3200k5
    have s3260 := gSg.rawat g3206 lp3200w0 (fun w => by cases w) lp3200c0 (by decide) lp3200k6
    have s3261 := gSg.rawat g3206 lp3200w0 (fun w => by cases w) lp3200c0 (by decide) lp3200k7
    have s3262 := gSg.rawat g3206 lp3200w0 (fun w => by cases w) lp3200c0 (by decide) lp3200k8
    have s3263 := gSg.rawat g3206 lp3200w0 (fun w => by cases w) lp3200c0 (by decide) lp3200k9
    have s3264 := gSg.rawat g3206 lp3200w0 (fun w => by cases w) lp3200c0 (by decide) lp3200k10
    have s3265 := gSg.rawat g3206 lp3200w0 (fun w => by cases w) lp3200c0 (by decide) lp3200k11
    have s3266 := gSg.rawat g3206 lp3200w0 (fun w => by cases w) lp3200c0 (by decide) lp3200k12
    have s3267 := gSg.rawat g3206 lp3200w0 (fun w => by cases w) lp3200c0 (by decide) lp3200k13
    have s3268 := gSg.rawat g3206 lp3200w0 (fun w => by cases w) lp3200c0 (by decide) lp3200k14
    have s3269 := gSg.rawat g3206 lp3200w0 (fun w => by cases w) lp3200c0 (by decide) lp3200k15
    have s3270 := gSg.rawat g3206 lp3200w0 (fun w => by cases w) lp3200c0 (by decide) lp3200k16
    have s3271 := gSg.rawat g3206 lp3200w0 (fun w => by cases w) lp3200c0 (by decide) lp3200k17
    have s3272 := gSg.rawat g3206 lp3200w0 (fun w => by cases w) lp3200c0 (by decide) lp3200k18
    have s3273 := gSg.rawat g3206 lp3200w0 (fun w => by cases w) lp3200c0 (by decide) lp3200k19
    have s3274 := gSg.rawat g3206 lp3200w0 (fun w => by cases w) lp3200c0 (by decide) lp3200k20
    have s3275 := gSg.rawat g3206 lp3200w0 (fun w => by cases w) lp3200c0 (by decide) lp3200k21
    have s3276 := gSg.rawat g3206 lp3200w0 (fun w => by cases w) lp3200c0 (by decide) lp3200k22
    have s3277 := gSg.rawat g3206 lp3200w0 (fun w => by cases w) lp3200c0 (by decide) lp3200k23
    have s3278 := gSg.rawat g3206 lp3200w0 (fun w => by cases w) lp3200c0 (by decide) lp3200k24
    have s3279 := gSg.rawat g3206 lp3200w0 (fun w => by cases w) lp3200c0 (by decide) lp3200k25
    have s3280 := gSg.rawat g3206 lp3200w0 (fun w => by cases w) lp3200c0 (by decide) lp3200k26
    have s3281 := gSg.rawat g3206 lp3200w0 (fun w => by cases w) lp3200c0 (by decide) lp3200k27
    have s3282 := gSg.rawat g3206 lp3200w0 (fun w => by cases w) lp3200c0 (by decide) lp3200k28
    have s3283 := gSg.rawat g3206 lp3200w0 (fun w => by cases w) lp3200c0 (by decide) lp3200k29
    have s3284 := gSg.rawat g3206 lp3200w0 (fun w => by cases w) lp3200c0 (by decide) lp3200k30
    have s3285 := gSg.rawat g3206 lp3200w0 (fun w => by cases w) lp3200c0 (by decide) lp3200k31
    have s3286 := gSg.rawat g3206 lp3200w0 (fun w => by cases w) lp3200c0 (by decide) lp3200k32
    have s3287 := gSg.rawat g3206 lp3200w0 (fun w => by cases w) lp3200c0 (by decide) lp3200k33
    have s3288 := gSg.rawat g3206 lp3200w0 (fun w => by cases w) lp3200c0 (by decide) lp3200k34
    have s3289 := gSg.rawat g3206 lp3200w0 (fun w => by cases w) lp3200c0 (by decide) lp3200k35
    have s3290 := gSg.rawat g3206 lp3200w0 (fun w => by cases w) lp3200c0 (by decide) lp3200k36
    have s3291 := gSg.rawat g3206 lp3200w0 (fun w => by cases w) lp3200c0 (by decide) lp3200k37
    have s3292 := gSg.rawat g3206 lp3200w0 (fun w => by cases w) lp3200c0 (by decide) lp3200k38
    have s3293 := gSg.rawat g3206 lp3200w0 (fun w => by cases w) lp3200c0 (by decide) lp3200k39
    have pr3294 : gNo [1] ty3203 := gNo.gr g3206 (by decide +kernel) (gNo.sub (by decide +kernel) lp3200k40)
    have pr3295 := gOyB.gr g3206 sh3201.1 rfl (by decide) (by decide) lp3200k41
    have sS3296 : gSs rT 1027 ty3203 [8999, 10999, 31999] h3204 h3204 := gSs.rf g3206.1
    refine gs_rput rfl (by decide) rfl sS3296.1 t3213 nx rw3209.2.1 rf3210 rfl (Or.inr rfl) (fun h3297 g3298 nh3297 mh3297 kh3297 zh3297 eh3297 fh3297 => ?_)
    have G3299 : gSg [1, 2, 3, 4, 5, 6, 7, 8, 9, 10, 11, 12, 13, 14, 15, 16, 17, 18, 19, 20, 21, 22, 23, 24, 25, 26, 27, 28, 29, 30, 31, 32, 33, 34, 35, 36, 37, 38, 39, 40, 41, 42, 200] [x] [8999, 10999, 31999] ty h ty3203 h3297 := gSg.tr (gSg.ss G3208 sS3296 (by decide)) g3298 (by decide) (by decide) (fun x hx => Or.inr hx)
    have pr3300 := gOyB.gr g3298 sS3296.1 rfl (by decide) (by decide) pr3295
    have sS3301 : gSs rT 1027 ty3203 [8999, 10999, 31999] h3297 h3297 := gSs.rf g3298.1
    have rf3302 := Nat.lt_of_lt_of_eq rw3209.2.1 nh3297.symm
    have rf3303 := zh3297.trans rf3211
    have dd3304 : ∀ k, ¬ k ∈ ([76, 73, 72, 71, 70, 69, 68, 66, 65, 63, 60, 58, 57, 56, 55, 54, 49, 40, 38, 37, 36, 35, 34, 33, 32, 31, 30, 29, 28, 27, 26, 25, 15, 14, 13, 12, 11, 10, 9, 4, 2] : List Nat) → h3297.2.2.2.2 x k = defaultValue (gGG.2.1 12 k) := raw_dp fh3297 dd3212
    have s3305 := (fh3297 2 (by decide)).trans s3254
    have s3306 := (fh3297 4 (by decide)).trans s3255
    have s3307 := (fh3297 9 (by decide)).trans s3256
    have s3308 := (fh3297 10 (by decide)).trans s3257
    have s3309 := (fh3297 11 (by decide)).trans s3258
    have s3310 := (fh3297 12 (by decide)).trans s3259
    have s3311 := (fh3297 13 (by decide)).trans s3260
    have s3312 := (fh3297 14 (by decide)).trans s3261
    have s3313 := (fh3297 15 (by decide)).trans s3262
    have s3314 := (fh3297 25 (by decide)).trans s3263
    have s3315 := (fh3297 26 (by decide)).trans s3264
    have s3316 := (fh3297 27 (by decide)).trans s3265
    have s3317 := (fh3297 28 (by decide)).trans s3266
    have s3318 := (fh3297 29 (by decide)).trans s3267
    have s3319 := (fh3297 30 (by decide)).trans s3268
    have s3320 := (fh3297 31 (by decide)).trans s3269
    have s3321 := (fh3297 32 (by decide)).trans s3270
    have s3322 := (fh3297 33 (by decide)).trans s3271
    have s3323 := (fh3297 34 (by decide)).trans s3272
    have s3324 := (fh3297 35 (by decide)).trans s3273
    have s3325 := (fh3297 36 (by decide)).trans s3274
    have s3326 := (fh3297 37 (by decide)).trans s3275
    have s3327 := (fh3297 38 (by decide)).trans s3276
    have s3328 := (fh3297 40 (by decide)).trans s3277
    have s3329 := (fh3297 49 (by decide)).trans s3278
    have s3330 := (fh3297 54 (by decide)).trans s3279
    have s3331 := (fh3297 55 (by decide)).trans s3280
    have s3332 := (fh3297 56 (by decide)).trans s3281
    have s3333 := (fh3297 57 (by decide)).trans s3282
    have s3334 := (fh3297 58 (by decide)).trans s3283
    have s3335 := (fh3297 60 (by decide)).trans s3284
    have s3336 := (fh3297 63 (by decide)).trans s3285
    have s3337 := (fh3297 65 (by decide)).trans s3286
    have s3338 := (fh3297 66 (by decide)).trans s3287
    have s3339 := (fh3297 68 (by decide)).trans s3288
    have s3340 := (fh3297 69 (by decide)).trans s3289
    have s3341 := (fh3297 70 (by decide)).trans s3290
    have s3342 := (fh3297 71 (by decide)).trans s3291
    have s3343 := (fh3297 72 (by decide)).trans s3292
    have s3344 := (fh3297 73 (by decide)).trans s3293
    clear G3208 dd3212 pr3295 rf3210 rf3211 rw3209 s3254 s3255 s3256 s3257 s3258 s3259 s3260 s3261 s3262 s3263 s3264 s3265 s3266 s3267 s3268 s3269 s3270 s3271 s3272 s3273 s3274 s3275 s3276 s3277 s3278 s3279 s3280 s3281 s3282 s3283 s3284 s3285 s3286 s3287 s3288 s3289 s3290 s3291 s3292 s3293 sS3296
    refine gz_s 2 (pc' := 338) (L' := [some (.ref x), some (.int (zi 0)), none, none, none]) (S' := []) rfl ?_
    have lp3345 := cmlp3345 d hJ x nx c3 c23 c46 c72 c101 c133 c171 c209 c250 c294 c341 c391 c447 c503 c562 c624 c689 c760 c831 c905 c982 c1065 c1148 c1234 c1323 c1420 c1517 c1617 c1723 c1829 c1938 c2053 c2168 c2286 c2410 c2534 c2661 c2794 c2927 c3063 c3205
    have G3604 : gSg [1, 2, 3, 4, 5, 6, 7, 8, 9, 10, 11, 12, 13, 14, 15, 16, 17, 18, 19, 20, 21, 22, 23, 24, 25, 26, 27, 28, 29, 30, 31, 32, 33, 34, 35, 36, 37, 38, 39, 40, 41, 42, 200] [x] [8999, 10999, 31999] ty h ty3203 h3297 := gSg.ss G3299 sS3301 (by decide)
    exact gz_wk (lp3345 _ ty3203 h3297 0 (Nat.lt_succ_self _) G3604 uq3207 t3213 t3214 t3215 t3216 t3217 t3218 t3219 t3220 t3221 t3222 t3223 t3224 t3225 t3226 t3227 t3228 t3229 t3230 t3231 t3232 t3233 t3234 t3235 t3236 t3237 t3238 t3239 t3240 t3241 t3242 t3243 t3244 t3245 t3246 t3247 t3248 t3249 t3250 t3251 t3252 t3253 tc3205 (by omega) (by omega) (by omega) s3305 s3306 s3307 s3308 s3309 s3310 s3311 s3312 s3313 s3314 s3315 s3316 s3317 s3318 s3319 s3320 s3321 s3322 s3323 s3324 s3325 s3326 s3327 s3328 s3329 s3330 s3331 s3332 s3333 s3334 s3335 s3336 s3337 s3338 s3339 s3340 s3341 s3342 s3343 s3344 eh3297 pr3294 pr3300 rf3302 kh3297 rf3303 dd3304) (gLw.s (gLw.s (gLw.n (gLw.n (gLw.n gLw.z)))))
set_option maxRecDepth 20000 in
set_option maxHeartbeats 4000000 in
theorem cmlp2789 (d : Nat) {ty : Nat → Nat} {h : gH} (hJ : gJ rT 1027 ty h) (x : Nat) (nx : 1027 ≤ x) (c3 c23 c46 c72 c101 c133 c171 c209 c250 c294 c341 c391 c447 c503 c562 c624 c689 c760 c831 c905 c982 c1065 c1148 c1234 c1323 c1420 c1517 c1617 c1723 c1829 c1938 c2053 c2168 c2286 c2410 c2534 c2661 : Nat) : ∀ (fu : Nat) (ty2791 : Nat → Nat) (h2790 : gH), ((1 : Int)).toNat < fu → gSg [1, 2, 3, 4, 5, 6, 7, 8, 9, 10, 11, 12, 13, 14, 15, 16, 17, 18, 19, 20, 21, 22, 23, 24, 25, 26, 27, 28, 29, 30, 31, 32, 33, 34, 35, 36, 37, 38, 39, 40, 41, 42, 200] [x] [8999, 10999, 31999] ty h ty2791 h2790 → gUq ty2791 → ty2791 x = 200 → ty2791 c3 = 2 → ty2791 c23 = 3 → ty2791 c46 = 4 → ty2791 c72 = 5 → ty2791 c101 = 6 → ty2791 c133 = 7 → ty2791 c171 = 8 → ty2791 c209 = 9 → ty2791 c250 = 10 → ty2791 c294 = 11 → ty2791 c341 = 12 → ty2791 c391 = 13 → ty2791 c447 = 14 → ty2791 c503 = 15 → ty2791 c562 = 16 → ty2791 c624 = 17 → ty2791 c689 = 18 → ty2791 c760 = 19 → ty2791 c831 = 20 → ty2791 c905 = 21 → ty2791 c982 = 22 → ty2791 c1065 = 23 → ty2791 c1148 = 24 → ty2791 c1234 = 25 → ty2791 c1323 = 26 → ty2791 c1420 = 27 → ty2791 c1517 = 28 → ty2791 c1617 = 29 → ty2791 c1723 = 30 → ty2791 c1829 = 31 → ty2791 c1938 = 32 → ty2791 c2053 = 33 → ty2791 c2168 = 34 → ty2791 c2286 = 35 → ty2791 c2410 = 36 → ty2791 c2534 = 37 → ty2791 c2661 = 38 → ((h2790.1 : Int) = h.1 + 37) → ((h2790.2.1 : Int) = h.2.1 + 87046) → h2790.2.2.2.2 x 2 = .ref c3 → h2790.2.2.2.2 x 4 = .ref c23 → h2790.2.2.2.2 x 9 = .ref c46 → h2790.2.2.2.2 x 10 = .ref c72 → h2790.2.2.2.2 x 11 = .ref c101 → h2790.2.2.2.2 x 12 = .ref c133 → h2790.2.2.2.2 x 13 = .ref c171 → h2790.2.2.2.2 x 14 = .ref c209 → h2790.2.2.2.2 x 15 = .ref c250 → h2790.2.2.2.2 x 25 = .ref c294 → h2790.2.2.2.2 x 26 = .ref c341 → h2790.2.2.2.2 x 27 = .ref c391 → h2790.2.2.2.2 x 28 = .ref c447 → h2790.2.2.2.2 x 29 = .ref c503 → h2790.2.2.2.2 x 30 = .ref c562 → h2790.2.2.2.2 x 31 = .ref c624 → h2790.2.2.2.2 x 32 = .ref c689 → h2790.2.2.2.2 x 33 = .ref c760 → h2790.2.2.2.2 x 34 = .ref c831 → h2790.2.2.2.2 x 35 = .ref c905 → h2790.2.2.2.2 x 36 = .ref c982 → h2790.2.2.2.2 x 37 = .ref c1065 → h2790.2.2.2.2 x 38 = .ref c1148 → h2790.2.2.2.2 x 40 = .ref c1234 → h2790.2.2.2.2 x 49 = .ref c1323 → h2790.2.2.2.2 x 54 = .ref c1420 → h2790.2.2.2.2 x 55 = .ref c1517 → h2790.2.2.2.2 x 56 = .ref c1617 → h2790.2.2.2.2 x 57 = .ref c1723 → h2790.2.2.2.2 x 58 = .ref c1829 → h2790.2.2.2.2 x 60 = .ref c1938 → h2790.2.2.2.2 x 63 = .ref c2053 → h2790.2.2.2.2 x 65 = .ref c2168 → h2790.2.2.2.2 x 66 = .ref c2286 → h2790.2.2.2.2 x 68 = .ref c2410 → h2790.2.2.2.2 x 69 = .ref c2534 → h2790.2.2.2.2 x 70 = .ref c2661 → gNo [1, 39, 40, 41, 42] ty2791 → gOyB ty2791 26 0 1024 h2790 → x < h2790.1 → h2790.2.2.1 x = some (.inr 12) → h2790.2.2.2.1 x = 0 → (∀ k, ¬ k ∈ ([70, 69, 68, 66, 65, 63, 60, 58, 57, 56, 55, 54, 49, 40, 38, 37, 36, 35, 34, 33, 32, 31, 30, 29, 28, 27, 26, 25, 15, 14, 13, 12, 11, 10, 9, 4, 2] : List Nat) → h2790.2.2.2.2 x k = defaultValue (gGG.2.1 12 k)) → gz gPP gGG gcn (d + 1) gt130 301 [some (.ref x), none, none, none, none] [] h2790 (fun q _ => ∃ ty9 : Nat → Nat, gSg [1, 2, 3, 4, 5, 6, 7, 8, 9, 10, 11, 12, 13, 14, 15, 16, 17, 18, 19, 20, 21, 22, 23, 24, 25, 26, 27, 28, 29, 30, 31, 32, 33, 34, 35, 36, 37, 38, 39, 40, 41, 42, 200] [x] [8999, 10999, 31999] ty h ty9 q.2.2 ∧ ∃ ip n1 cw ch iv1 : Int, ty9 x = 1 ∧ gfin gt130 q.1 q.2.1 = some none ∧ q.2.2.2.2.2.2 x 16 = .int (zi ip) ∧ 0 ≤ ip ∧ ip ≤ 1 ∧ q.2.2.2.2.2.2 x 53 = .int (zi n1) ∧ 0 ≤ n1 ∧ n1 ≤ 10 ∧ q.2.2.2.2.2.2 x 50 = .int (zi cw) ∧ 0 ≤ cw ∧ cw ≤ 32 ∧ q.2.2.2.2.2.2 x 51 = .int (zi ch) ∧ 0 ≤ ch ∧ ch ≤ 32 ∧ q.2.2.2.2.2.2 x 52 = .int (zi iv1) ∧ 0 ≤ iv1 ∧ iv1 ≤ 100 ∧ (ip = 0) ∧ (n1 = 0) ∧ (cw = 0) ∧ (ch = 0) ∧ (iv1 = 0) ∧ ((q.2.2.1 : Int) = h.1 + 41) ∧ ((q.2.2.2.1 : Int) = h.2.1 + 88652) ∧ (gTs ty9 0 q.2.2) ∧ (gOyB ty9 26 0 1024 q.2.2) ∧ gUq ty9) := by
  intro fu
  induction fu with
  | zero => intro ty2791 h2790  hm; exact absurd hm (Nat.not_lt_zero _)
  | succ fu ihlp2789 =>
    intro ty2791 h2790  lp2789m lp2789G lp2789u lp2789c0 lp2789c1 lp2789c2 lp2789c3 lp2789c4 lp2789c5 lp2789c6 lp2789c7 lp2789c8 lp2789c9 lp2789c10 lp2789c11 lp2789c12 lp2789c13 lp2789c14 lp2789c15 lp2789c16 lp2789c17 lp2789c18 lp2789c19 lp2789c20 lp2789c21 lp2789c22 lp2789c23 lp2789c24 lp2789c25 lp2789c26 lp2789c27 lp2789c28 lp2789c29 lp2789c30 lp2789c31 lp2789c32 lp2789c33 lp2789c34 lp2789c35 lp2789c36 lp2789c37 lp2789f0 lp2789f1 lp2789k0 lp2789k1 lp2789k2 lp2789k3 lp2789k4 lp2789k5 lp2789k6 lp2789k7 lp2789k8 lp2789k9 lp2789k10 lp2789k11 lp2789k12 lp2789k13 lp2789k14 lp2789k15 lp2789k16 lp2789k17 lp2789k18 lp2789k19 lp2789k20 lp2789k21 lp2789k22 lp2789k23 lp2789k24 lp2789k25 lp2789k26 lp2789k27 lp2789k28 lp2789k29 lp2789k30 lp2789k31 lp2789k32 lp2789k33 lp2789k34 lp2789k35 lp2789k36 lp2789k37 lp2789k38 lp2789w0 lp2789w1 lp2789w2 lp2789w3
    have sh2790 : gSs rT 1027 ty2791 [8999, 10999, 31999] h2790 h2790 := gSs.rf lp2789G.1
    refine gz_s 2 (pc' := 305) (L' := [some (.ref x), none, none, none, none]) (S' := [.int (zi 514), .ref x]) rfl ?_
    refine gs_newr 39 rfl (by decide) rfl sh2790.1 (Nat.le_of_lt (Nat.lt_of_le_of_lt (gJ.cell sh2790.1 lp2789c1 rfl).1 (gJ.cell sh2790.1 lp2789c1 rfl).2.1)) (by omega) (by omega) rfl rfl (by show (514 : Int) ≤ _; omega) (by show _ ≤ (514 : Int); omega) (fun _ _ => gos_i (by decide) (by decide)) (fun ty2792 h2793 c2794 g2795 tc2794 lc2794 nc2794 mc2794 ec2794 dc2794 uc2794 => ?_)
    have gac2794 : h.1 ≤ c2794 := by have h8 := lp2789G.2.1; have h9 := sh2790.2.1; omega
    have uq2796 := uc2794 lp2789u (Or.inr (gNo.sub (by decide +kernel) lp2789k37))
    have G2797 : gSg [1, 2, 3, 4, 5, 6, 7, 8, 9, 10, 11, 12, 13, 14, 15, 16, 17, 18, 19, 20, 21, 22, 23, 24, 25, 26, 27, 28, 29, 30, 31, 32, 33, 34, 35, 36, 37, 38, 39, 40, 41, 42, 200] [x] [8999, 10999, 31999] ty h ty2792 h2793 := gSg.tr (gSg.ss lp2789G sh2790 (by decide)) g2795 (by decide) (by decide) (fun x hx => by cases hx)
    have rw2798 := gSg.raw g2795 lp2789w0 (fun w => by cases w)
    have rf2799 := (rw2798.2.2.1.trans lp2789w1)
    have rf2800 := (rw2798.2.2.2.trans lp2789w2)
    have dd2801 := gSg.rawd (ci := 12) (ps := [70, 69, 68, 66, 65, 63, 60, 58, 57, 56, 55, 54, 49, 40, 38, 37, 36, 35, 34, 33, 32, 31, 30, 29, 28, 27, 26, 25, 15, 14, 13, 12, 11, 10, 9, 4, 2]) g2795 lp2789w0 (fun w => by cases w) lp2789c0 (by decide) lp2789w3
    have t2802 : ty2792 x = 200 := rw2798.1.trans lp2789c0
    have t2803 : ty2792 c3 = 2 := gSg.typ g2795 sh2790.1 lp2789c1 rTk_2
    have t2804 : ty2792 c23 = 3 := gSg.typ g2795 sh2790.1 lp2789c2 rTk_3
    have t2805 : ty2792 c46 = 4 := gSg.typ g2795 sh2790.1 lp2789c3 rTk_4
    have t2806 : ty2792 c72 = 5 := gSg.typ g2795 sh2790.1 lp2789c4 rTk_5
    have t2807 : ty2792 c101 = 6 := gSg.typ g2795 sh2790.1 lp2789c5 rTk_6
    have t2808 : ty2792 c133 = 7 := gSg.typ g2795 sh2790.1 lp2789c6 rTk_7
    have t2809 : ty2792 c171 = 8 := gSg.typ g2795 sh2790.1 lp2789c7 rTk_8
    have t2810 : ty2792 c209 = 9 := gSg.typ g2795 sh2790.1 lp2789c8 rTk_9
    have t2811 : ty2792 c250 = 10 := gSg.typ g2795 sh2790.1 lp2789c9 rTk_10
    have t2812 : ty2792 c294 = 11 := gSg.typ g2795 sh2790.1 lp2789c10 rTk_11
    have t2813 : ty2792 c341 = 12 := gSg.typ g2795 sh2790.1 lp2789c11 rTk_12
    have t2814 : ty2792 c391 = 13 := gSg.typ g2795 sh2790.1 lp2789c12 rTk_13
    have t2815 : ty2792 c447 = 14 := gSg.typ g2795 sh2790.1 lp2789c13 rTk_14
    have t2816 : ty2792 c503 = 15 := gSg.typ g2795 sh2790.1 lp2789c14 rTk_15
    have t2817 : ty2792 c562 = 16 := gSg.typ g2795 sh2790.1 lp2789c15 rTk_16
    have t2818 : ty2792 c624 = 17 := gSg.typ g2795 sh2790.1 lp2789c16 rTk_17
    have t2819 : ty2792 c689 = 18 := gSg.typ g2795 sh2790.1 lp2789c17 rTk_18
    have t2820 : ty2792 c760 = 19 := gSg.typ g2795 sh2790.1 lp2789c18 rTk_19
    have t2821 : ty2792 c831 = 20 := gSg.typ g2795 sh2790.1 lp2789c19 rTk_20
    have t2822 : ty2792 c905 = 21 := gSg.typ g2795 sh2790.1 lp2789c20 rTk_21
    have t2823 : ty2792 c982 = 22 := gSg.typ g2795 sh2790.1 lp2789c21 rTk_22
    have t2824 : ty2792 c1065 = 23 := gSg.typ g2795 sh2790.1 lp2789c22 rTk_23
    have t2825 : ty2792 c1148 = 24 := gSg.typ g2795 sh2790.1 lp2789c23 rTk_24
    have t2826 : ty2792 c1234 = 25 := gSg.typ g2795 sh2790.1 lp2789c24 rTk_25
    have t2827 : ty2792 c1323 = 26 := gSg.typ g2795 sh2790.1 lp2789c25 rTk_26
    have t2828 : ty2792 c1420 = 27 := gSg.typ g2795 sh2790.1 lp2789c26 rTk_27
    have t2829 : ty2792 c1517 = 28 := gSg.typ g2795 sh2790.1 lp2789c27 rTk_28
    have t2830 : ty2792 c1617 = 29 := gSg.typ g2795 sh2790.1 lp2789c28 rTk_29
    have t2831 : ty2792 c1723 = 30 := gSg.typ g2795 sh2790.1 lp2789c29 rTk_30
    have t2832 : ty2792 c1829 = 31 := gSg.typ g2795 sh2790.1 lp2789c30 rTk_31
    have t2833 : ty2792 c1938 = 32 := gSg.typ g2795 sh2790.1 lp2789c31 rTk_32
    have t2834 : ty2792 c2053 = 33 := gSg.typ g2795 sh2790.1 lp2789c32 rTk_33
    have t2835 : ty2792 c2168 = 34 := gSg.typ g2795 sh2790.1 lp2789c33 rTk_34
    have t2836 : ty2792 c2286 = 35 := gSg.typ g2795 sh2790.1 lp2789c34 rTk_35
    have t2837 : ty2792 c2410 = 36 := gSg.typ g2795 sh2790.1 lp2789c35 rTk_36
    have t2838 : ty2792 c2534 = 37 := gSg.typ g2795 sh2790.1 lp2789c36 rTk_37
    have t2839 : ty2792 c2661 = 38 := gSg.typ g2795 sh2790.1 lp2789c37 rTk_38
    have s2840 := gSg.rawat g2795 lp2789w0 (fun w => by cases w) lp2789c0 (by decide) lp2789k0
    have s2841 := gSg.rawat g2795 lp2789w0 (fun w => by cases w) lp2789c0 (by decide) lp2789k1
    have s2842 := gSg.rawat g2795 lp2789w0 (fun w => by cases w) lp2789c0 (by decide) lp2789k2
    have s2843 := gSg.rawat g2795 lp2789w0 (fun w => by cases w) lp2789c0 (by decide) lp2789k3
    have s2844 := gSg.rawat g2795 lp2789w0 (fun w => by cases w) lp2789c0 (by decide) lp2789k4
    have s2845 := gSg.rawat g2795 lp2789w0 (fun w => by cases w) lp2789c0 (by decide) lp2789k5
    have s2846 := gSg.rawat g2795 lp2789w0 (fun w => by cases w) lp2789c0 (by decide) lp2789k6
    have s2847 := gSg.rawat g2795 lp2789w0 (fun w => by cases w) lp2789c0 (by decide) lp2789k7
    have s2848 := gSg.rawat g2795 lp2789w0 (fun w => by cases w) lp2789c0 (by decide) lp2789k8
    have s2849 := gSg.rawat g2795 lp2789w0 (fun w => by cases w) lp2789c0 (by decide) lp2789k9
    have s2850 := gSg.rawat g2795 lp2789w0 (fun w => by cases w) lp2789c0 (by decide) lp2789k10
    have s2851 := gSg.rawat g2795 lp2789w0 (fun w => by cases w) lp2789c0 (by decide) lp2789k11
    have s2852 := gSg.rawat g2795 lp2789w0 (fun w => by cases w) lp2789c0 (by decide) lp2789k12
    have s2853 := gSg.rawat g2795 lp2789w0 (fun w => by cases w) lp2789c0 (by decide) lp2789k13
    have s2854 := gSg.rawat g2795 lp2789w0 (fun w => by cases w) lp2789c0 (by decide) lp2789k14
    have s2855 := gSg.rawat g2795 lp2789w0 (fun w => by cases w) lp2789c0 (by decide) lp2789k15
    have s2856 := gSg.rawat g2795 lp2789w0 (fun w => by cases w) lp2789c0 (by decide) lp2789k16
    have s2857 := gSg.rawat g2795 lp2789w0 (fun w => by cases w) lp2789c0 (by decide) lp2789k17
    have s2858 := gSg.rawat g2795 lp2789w0 (fun w => by cases w) lp2789c0 (by decide) lp2789k18
    have s2859 := gSg.rawat g2795 lp2789w0 (fun w => by cases w) lp2789c0 (by decide) lp2789k19
    have s2860 := gSg.rawat g2795 lp2789w0 (fun w => by cases w) lp2789c0 (by decide) lp2789k20
    have s2861 := gSg.rawat g2795 lp2789w0 (fun w => by cases w) lp2789c0 (by decide) lp2789k21
    have s2862 := gSg.rawat g2795 lp2789w0 (fun w => by cases w) lp2789c0 (by decide) lp2789k22
    have s2863 := gSg.rawat g2795 lp2789w0 (fun w => by cases w) lp2789c0 (by decide) lp2789k23
    have s2864 := gSg.rawat g2795 lp2789w0 (fun w => by cases w) lp2789c0 (by decide) lp2789k24
    have s2865 := gSg.rawat g2795 lp2789w0 (fun w => by cases w) lp2789c0 (by decide) lp2789k25
    have s2866 := gSg.rawat g2795 lp2789w0 (fun w => by cases w) lp2789c0 (by decide) lp2789k26
    have s2867 := gSg.rawat g2795 lp2789w0 (fun w => by cases w) lp2789c0 (by decide) lp2789k27
    have s2868 := gSg.rawat g2795 lp2789w0 (fun w => by cases w) lp2789c0 (by decide) lp2789k28
    have s2869 := gSg.rawat g2795 lp2789w0 (fun w => by cases w) lp2789c0 (by decide) lp2789k29
    have s2870 := gSg.rawat g2795 lp2789w0 (fun w => by cases w) lp2789c0 (by decide) lp2789k30
    have s2871 := gSg.rawat g2795 lp2789w0 (fun w => by cases w) lp2789c0 (by decide) lp2789k31
    have s2872 := gSg.rawat g2795 lp2789w0 (fun w => by cases w) lp2789c0 (by decide) lp2789k32
    have s2873 := gSg.rawat g2795 lp2789w0 (fun w => by cases w) lp2789c0 (by decide) lp2789k33
    have s2874 := gSg.rawat g2795 lp2789w0 (fun w => by cases w) lp2789c0 (by decide) lp2789k34
    have s2875 := gSg.rawat g2795 lp2789w0 (fun w => by cases w) lp2789c0 (by decide) lp2789k35
    have s2876 := gSg.rawat g2795 lp2789w0 (fun w => by cases w) lp2789c0 (by decide) lp2789k36
    have pr2877 : gNo [1, 40, 41, 42] ty2792 := gNo.gr g2795 (by decide +kernel) (gNo.sub (by decide +kernel) lp2789k37)
    have pr2878 := gOyB.gr g2795 sh2790.1 rfl (by decide) (by decide) lp2789k38
    have sS2879 : gSs rT 1027 ty2792 [8999, 10999, 31999] h2793 h2793 := gSs.rf g2795.1
    refine gs_rput rfl (by decide) rfl sS2879.1 t2802 nx rw2798.2.1 rf2799 rfl (Or.inr rfl) (fun h2880 g2881 nh2880 mh2880 kh2880 zh2880 eh2880 fh2880 => ?_)
    have G2882 : gSg [1, 2, 3, 4, 5, 6, 7, 8, 9, 10, 11, 12, 13, 14, 15, 16, 17, 18, 19, 20, 21, 22, 23, 24, 25, 26, 27, 28, 29, 30, 31, 32, 33, 34, 35, 36, 37, 38, 39, 40, 41, 42, 200] [x] [8999, 10999, 31999] ty h ty2792 h2880 := gSg.tr (gSg.ss G2797 sS2879 (by decide)) g2881 (by decide) (by decide) (fun x hx => Or.inr hx)
    have pr2883 := gOyB.gr g2881 sS2879.1 rfl (by decide) (by decide) pr2878
    have sS2884 : gSs rT 1027 ty2792 [8999, 10999, 31999] h2880 h2880 := gSs.rf g2881.1
    have rf2885 := Nat.lt_of_lt_of_eq rw2798.2.1 nh2880.symm
    have rf2886 := zh2880.trans rf2800
    have dd2887 : ∀ k, ¬ k ∈ ([71, 70, 69, 68, 66, 65, 63, 60, 58, 57, 56, 55, 54, 49, 40, 38, 37, 36, 35, 34, 33, 32, 31, 30, 29, 28, 27, 26, 25, 15, 14, 13, 12, 11, 10, 9, 4, 2] : List Nat) → h2880.2.2.2.2 x k = defaultValue (gGG.2.1 12 k) := raw_dp fh2880 dd2801
    have s2888 := (fh2880 2 (by decide)).trans s2840
    have s2889 := (fh2880 4 (by decide)).trans s2841
    have s2890 := (fh2880 9 (by decide)).trans s2842
    have s2891 := (fh2880 10 (by decide)).trans s2843
    have s2892 := (fh2880 11 (by decide)).trans s2844
    have s2893 := (fh2880 12 (by decide)).trans s2845
    have s2894 := (fh2880 13 (by decide)).trans s2846
    have s2895 := (fh2880 14 (by decide)).trans s2847
    have s2896 := (fh2880 15 (by decide)).trans s2848
    have s2897 := (fh2880 25 (by decide)).trans s2849
    have s2898 := (fh2880 26 (by decide)).trans s2850
    have s2899 := (fh2880 27 (by decide)).trans s2851
    have s2900 := (fh2880 28 (by decide)).trans s2852
    have s2901 := (fh2880 29 (by decide)).trans s2853
    have s2902 := (fh2880 30 (by decide)).trans s2854
    have s2903 := (fh2880 31 (by decide)).trans s2855
    have s2904 := (fh2880 32 (by decide)).trans s2856
    have s2905 := (fh2880 33 (by decide)).trans s2857
    have s2906 := (fh2880 34 (by decide)).trans s2858
    have s2907 := (fh2880 35 (by decide)).trans s2859
    have s2908 := (fh2880 36 (by decide)).trans s2860
    have s2909 := (fh2880 37 (by decide)).trans s2861
    have s2910 := (fh2880 38 (by decide)).trans s2862
    have s2911 := (fh2880 40 (by decide)).trans s2863
    have s2912 := (fh2880 49 (by decide)).trans s2864
    have s2913 := (fh2880 54 (by decide)).trans s2865
    have s2914 := (fh2880 55 (by decide)).trans s2866
    have s2915 := (fh2880 56 (by decide)).trans s2867
    have s2916 := (fh2880 57 (by decide)).trans s2868
    have s2917 := (fh2880 58 (by decide)).trans s2869
    have s2918 := (fh2880 60 (by decide)).trans s2870
    have s2919 := (fh2880 63 (by decide)).trans s2871
    have s2920 := (fh2880 65 (by decide)).trans s2872
    have s2921 := (fh2880 66 (by decide)).trans s2873
    have s2922 := (fh2880 68 (by decide)).trans s2874
    have s2923 := (fh2880 69 (by decide)).trans s2875
    have s2924 := (fh2880 70 (by decide)).trans s2876
    clear G2797 dd2801 pr2878 rf2799 rf2800 rw2798 s2840 s2841 s2842 s2843 s2844 s2845 s2846 s2847 s2848 s2849 s2850 s2851 s2852 s2853 s2854 s2855 s2856 s2857 s2858 s2859 s2860 s2861 s2862 s2863 s2864 s2865 s2866 s2867 s2868 s2869 s2870 s2871 s2872 s2873 s2874 s2875 s2876 sS2879
    refine gz_s 2 (pc' := 314) (L' := [some (.ref x), none, none, none, none]) (S' := [.int (zi 514), .ref x]) rfl ?_
    refine gs_newr 40 rfl (by decide) rfl sS2884.1 (Nat.le_of_lt (Nat.lt_of_le_of_lt (gJ.cell sS2884.1 t2803 rfl).1 (gJ.cell sS2884.1 t2803 rfl).2.1)) (by omega) (by omega) rfl rfl (by show (514 : Int) ≤ _; omega) (by show _ ≤ (514 : Int); omega) (fun _ _ => gos_i (by decide) (by decide)) (fun ty2925 h2926 c2927 g2928 tc2927 lc2927 nc2927 mc2927 ec2927 dc2927 uc2927 => ?_)
    have gac2927 : h.1 ≤ c2927 := by have h8 := G2882.2.1; have h9 := sS2884.2.1; omega
    have uq2929 := uc2927 uq2796 (Or.inr (gNo.sub (by decide +kernel) pr2877))
    have G2930 : gSg [1, 2, 3, 4, 5, 6, 7, 8, 9, 10, 11, 12, 13, 14, 15, 16, 17, 18, 19, 20, 21, 22, 23, 24, 25, 26, 27, 28, 29, 30, 31, 32, 33, 34, 35, 36, 37, 38, 39, 40, 41, 42, 200] [x] [8999, 10999, 31999] ty h ty2925 h2926 := gSg.tr (gSg.ss G2882 sS2884 (by decide)) g2928 (by decide) (by decide) (fun x hx => by cases hx)
    have rw2931 := gSg.raw g2928 rf2885 (fun w => by cases w)
    have rf2932 := (rw2931.2.2.1.trans kh2880)
    have rf2933 := (rw2931.2.2.2.trans rf2886)
    have dd2934 := gSg.rawd (ci := 12) (ps := [71, 70, 69, 68, 66, 65, 63, 60, 58, 57, 56, 55, 54, 49, 40, 38, 37, 36, 35, 34, 33, 32, 31, 30, 29, 28, 27, 26, 25, 15, 14, 13, 12, 11, 10, 9, 4, 2]) g2928 rf2885 (fun w => by cases w) t2802 (by decide) dd2887
    have t2935 : ty2925 x = 200 := rw2931.1.trans t2802
    have t2936 : ty2925 c3 = 2 := gSg.typ g2928 sS2884.1 t2803 rTk_2
    have t2937 : ty2925 c23 = 3 := gSg.typ g2928 sS2884.1 t2804 rTk_3
    have t2938 : ty2925 c46 = 4 := gSg.typ g2928 sS2884.1 t2805 rTk_4
    have t2939 : ty2925 c72 = 5 := gSg.typ g2928 sS2884.1 t2806 rTk_5
    have t2940 : ty2925 c101 = 6 := gSg.typ g2928 sS2884.1 t2807 rTk_6
    have t2941 : ty2925 c133 = 7 := gSg.typ g2928 sS2884.1 t2808 rTk_7
    have t2942 : ty2925 c171 = 8 := gSg.typ g2928 sS2884.1 t2809 rTk_8
    have t2943 : ty2925 c209 = 9 := gSg.typ g2928 sS2884.1 t2810 rTk_9
    have t2944 : ty2925 c250 = 10 := gSg.typ g2928 sS2884.1 t2811 rTk_10
    have t2945 : ty2925 c294 = 11 := gSg.typ g2928 sS2884.1 t2812 rTk_11
    have t2946 : ty2925 c341 = 12 := gSg.typ g2928 sS2884.1 t2813 rTk_12
    have t2947 : ty2925 c391 = 13 := gSg.typ g2928 sS2884.1 t2814 rTk_13
    have t2948 : ty2925 c447 = 14 := gSg.typ g2928 sS2884.1 t2815 rTk_14
    have t2949 : ty2925 c503 = 15 := gSg.typ g2928 sS2884.1 t2816 rTk_15
    have t2950 : ty2925 c562 = 16 := gSg.typ g2928 sS2884.1 t2817 rTk_16
    have t2951 : ty2925 c624 = 17 := gSg.typ g2928 sS2884.1 t2818 rTk_17
    have t2952 : ty2925 c689 = 18 := gSg.typ g2928 sS2884.1 t2819 rTk_18
    have t2953 : ty2925 c760 = 19 := gSg.typ g2928 sS2884.1 t2820 rTk_19
    have t2954 : ty2925 c831 = 20 := gSg.typ g2928 sS2884.1 t2821 rTk_20
    have t2955 : ty2925 c905 = 21 := gSg.typ g2928 sS2884.1 t2822 rTk_21
    have t2956 : ty2925 c982 = 22 := gSg.typ g2928 sS2884.1 t2823 rTk_22
    have t2957 : ty2925 c1065 = 23 := gSg.typ g2928 sS2884.1 t2824 rTk_23
    have t2958 : ty2925 c1148 = 24 := gSg.typ g2928 sS2884.1 t2825 rTk_24
    have t2959 : ty2925 c1234 = 25 := gSg.typ g2928 sS2884.1 t2826 rTk_25
    have t2960 : ty2925 c1323 = 26 := gSg.typ g2928 sS2884.1 t2827 rTk_26
    have t2961 : ty2925 c1420 = 27 := gSg.typ g2928 sS2884.1 t2828 rTk_27
    have t2962 : ty2925 c1517 = 28 := gSg.typ g2928 sS2884.1 t2829 rTk_28
    have t2963 : ty2925 c1617 = 29 := gSg.typ g2928 sS2884.1 t2830 rTk_29
    have t2964 : ty2925 c1723 = 30 := gSg.typ g2928 sS2884.1 t2831 rTk_30
    have t2965 : ty2925 c1829 = 31 := gSg.typ g2928 sS2884.1 t2832 rTk_31
    have t2966 : ty2925 c1938 = 32 := gSg.typ g2928 sS2884.1 t2833 rTk_32
    have t2967 : ty2925 c2053 = 33 := gSg.typ g2928 sS2884.1 t2834 rTk_33
    have t2968 : ty2925 c2168 = 34 := gSg.typ g2928 sS2884.1 t2835 rTk_34
    have t2969 : ty2925 c2286 = 35 := gSg.typ g2928 sS2884.1 t2836 rTk_35
    have t2970 : ty2925 c2410 = 36 := gSg.typ g2928 sS2884.1 t2837 rTk_36
    have t2971 : ty2925 c2534 = 37 := gSg.typ g2928 sS2884.1 t2838 rTk_37
    have t2972 : ty2925 c2661 = 38 := gSg.typ g2928 sS2884.1 t2839 rTk_38
    have t2973 : ty2925 c2794 = 39 := gSg.typ g2928 sS2884.1 tc2794 rTk_39
    have s2974 := gSg.rawat g2928 rf2885 (fun w => by cases w) t2802 (by decide) s2888
    have s2975 := gSg.rawat g2928 rf2885 (fun w => by cases w) t2802 (by decide) s2889
    have s2976 := gSg.rawat g2928 rf2885 (fun w => by cases w) t2802 (by decide) s2890
    have s2977 := gSg.rawat g2928 rf2885 (fun w => by cases w) t2802 (by decide) s2891
    have s2978 := gSg.rawat g2928 rf2885 (fun w => by cases w) t2802 (by decide) s2892
    have s2979 := gSg.rawat g2928 rf2885 (fun w => by cases w) t2802 (by decide) s2893
    have s2980 := gSg.rawat g2928 rf2885 (fun w => by cases w) t2802 (by decide) s2894
    have s2981 := gSg.rawat g2928 rf2885 (fun w => by cases w) t2802 (by decide) s2895
    have s2982 := gSg.rawat g2928 rf2885 (fun w => by cases w) t2802 (by decide) s2896
    have s2983 := gSg.rawat g2928 rf2885 (fun w => by cases w) t2802 (by decide) s2897
    have s2984 := gSg.rawat g2928 rf2885 (fun w => by cases w) t2802 (by decide) s2898
    have s2985 := gSg.rawat g2928 rf2885 (fun w => by cases w) t2802 (by decide) s2899
    have s2986 := gSg.rawat g2928 rf2885 (fun w => by cases w) t2802 (by decide) s2900
    have s2987 := gSg.rawat g2928 rf2885 (fun w => by cases w) t2802 (by decide) s2901
    have s2988 := gSg.rawat g2928 rf2885 (fun w => by cases w) t2802 (by decide) s2902
    have s2989 := gSg.rawat g2928 rf2885 (fun w => by cases w) t2802 (by decide) s2903
    have s2990 := gSg.rawat g2928 rf2885 (fun w => by cases w) t2802 (by decide) s2904
    have s2991 := gSg.rawat g2928 rf2885 (fun w => by cases w) t2802 (by decide) s2905
    have s2992 := gSg.rawat g2928 rf2885 (fun w => by cases w) t2802 (by decide) s2906
    have s2993 := gSg.rawat g2928 rf2885 (fun w => by cases w) t2802 (by decide) s2907
    have s2994 := gSg.rawat g2928 rf2885 (fun w => by cases w) t2802 (by decide) s2908
    have s2995 := gSg.rawat g2928 rf2885 (fun w => by cases w) t2802 (by decide) s2909
    have s2996 := gSg.rawat g2928 rf2885 (fun w => by cases w) t2802 (by decide) s2910
    have s2997 := gSg.rawat g2928 rf2885 (fun w => by cases w) t2802 (by decide) s2911
    have s2998 := gSg.rawat g2928 rf2885 (fun w => by cases w) t2802 (by decide) s2912
    have s2999 := gSg.rawat g2928 rf2885 (fun w => by cases w) t2802 (by decide) s2913
    have s3000 := gSg.rawat g2928 rf2885 (fun w => by cases w) t2802 (by decide) s2914
    have s3001 := gSg.rawat g2928 rf2885 (fun w => by cases w) t2802 (by decide) s2915
    have s3002 := gSg.rawat g2928 rf2885 (fun w => by cases w) t2802 (by decide) s2916
    have s3003 := gSg.rawat g2928 rf2885 (fun w => by cases w) t2802 (by decide) s2917
    have s3004 := gSg.rawat g2928 rf2885 (fun w => by cases w) t2802 (by decide) s2918
    have s3005 := gSg.rawat g2928 rf2885 (fun w => by cases w) t2802 (by decide) s2919
    have s3006 := gSg.rawat g2928 rf2885 (fun w => by cases w) t2802 (by decide) s2920
    have s3007 := gSg.rawat g2928 rf2885 (fun w => by cases w) t2802 (by decide) s2921
    have s3008 := gSg.rawat g2928 rf2885 (fun w => by cases w) t2802 (by decide) s2922
    have s3009 := gSg.rawat g2928 rf2885 (fun w => by cases w) t2802 (by decide) s2923
    have s3010 := gSg.rawat g2928 rf2885 (fun w => by cases w) t2802 (by decide) s2924
    have s3011 := gSg.rawat g2928 rf2885 (fun w => by cases w) t2802 (by decide) eh2880
    have pr3012 : gNo [1, 41, 42] ty2925 := gNo.gr g2928 (by decide +kernel) (gNo.sub (by decide +kernel) pr2877)
    have pr3013 := gOyB.gr g2928 sS2884.1 rfl (by decide) (by decide) pr2883
    have sS3014 : gSs rT 1027 ty2925 [8999, 10999, 31999] h2926 h2926 := gSs.rf g2928.1
    clear G2882 dd2887 pr2877 pr2883 rf2885 rf2886 s2888 s2889 s2890 s2891 s2892 s2893 s2894 s2895 s2896 s2897 s2898 s2899 s2900 s2901 s2902 s2903 s2904 s2905 s2906 s2907 s2908 s2909 s2910 s2911 s2912 s2913 s2914 s2915 s2916 s2917 s2918 s2919 s2920 s2921 s2922 s2923 s2924 sS2884 t2802 t2803 t2804 t2805 t2806 t2807 t2808 t2809 t2810 t2811 t2812 t2813 t2814 t2815 t2816 t2817 t2818 t2819 t2820 t2821 t2822 t2823 t2824 t2825 t2826 t2827 t2828 t2829 t2830 t2831 t2832 t2833 t2834 t2835 t2836 t2837 t2838 t2839 uq2796
    refine gs_rput rfl (by decide) rfl sS3014.1 t2935 nx rw2931.2.1 rf2932 rfl (Or.inr rfl) (fun h3015 g3016 nh3015 mh3015 kh3015 zh3015 eh3015 fh3015 => ?_)
    have G3017 : gSg [1, 2, 3, 4, 5, 6, 7, 8, 9, 10, 11, 12, 13, 14, 15, 16, 17, 18, 19, 20, 21, 22, 23, 24, 25, 26, 27, 28, 29, 30, 31, 32, 33, 34, 35, 36, 37, 38, 39, 40, 41, 42, 200] [x] [8999, 10999, 31999] ty h ty2925 h3015 := gSg.tr (gSg.ss G2930 sS3014 (by decide)) g3016 (by decide) (by decide) (fun x hx => Or.inr hx)
    have pr3018 := gOyB.gr g3016 sS3014.1 rfl (by decide) (by decide) pr3013
    have sS3019 : gSs rT 1027 ty2925 [8999, 10999, 31999] h3015 h3015 := gSs.rf g3016.1
    have rf3020 := Nat.lt_of_lt_of_eq rw2931.2.1 nh3015.symm
    have rf3021 := zh3015.trans rf2933
    have dd3022 : ∀ k, ¬ k ∈ ([72, 71, 70, 69, 68, 66, 65, 63, 60, 58, 57, 56, 55, 54, 49, 40, 38, 37, 36, 35, 34, 33, 32, 31, 30, 29, 28, 27, 26, 25, 15, 14, 13, 12, 11, 10, 9, 4, 2] : List Nat) → h3015.2.2.2.2 x k = defaultValue (gGG.2.1 12 k) := raw_dp fh3015 dd2934
    have s3023 := (fh3015 2 (by decide)).trans s2974
    have s3024 := (fh3015 4 (by decide)).trans s2975
    have s3025 := (fh3015 9 (by decide)).trans s2976
    have s3026 := (fh3015 10 (by decide)).trans s2977
    have s3027 := (fh3015 11 (by decide)).trans s2978
    have s3028 := (fh3015 12 (by decide)).trans s2979
    have s3029 := (fh3015 13 (by decide)).trans s2980
    have s3030 := (fh3015 14 (by decide)).trans s2981
    have s3031 := (fh3015 15 (by decide)).trans s2982
    have s3032 := (fh3015 25 (by decide)).trans s2983
    have s3033 := (fh3015 26 (by decide)).trans s2984
    have s3034 := (fh3015 27 (by decide)).trans s2985
    have s3035 := (fh3015 28 (by decide)).trans s2986
    have s3036 := (fh3015 29 (by decide)).trans s2987
    have s3037 := (fh3015 30 (by decide)).trans s2988
    have s3038 := (fh3015 31 (by decide)).trans s2989
    have s3039 := (fh3015 32 (by decide)).trans s2990
    have s3040 := (fh3015 33 (by decide)).trans s2991
    have s3041 := (fh3015 34 (by decide)).trans s2992
    have s3042 := (fh3015 35 (by decide)).trans s2993
    have s3043 := (fh3015 36 (by decide)).trans s2994
    have s3044 := (fh3015 37 (by decide)).trans s2995
    have s3045 := (fh3015 38 (by decide)).trans s2996
    have s3046 := (fh3015 40 (by decide)).trans s2997
    have s3047 := (fh3015 49 (by decide)).trans s2998
    have s3048 := (fh3015 54 (by decide)).trans s2999
    have s3049 := (fh3015 55 (by decide)).trans s3000
    have s3050 := (fh3015 56 (by decide)).trans s3001
    have s3051 := (fh3015 57 (by decide)).trans s3002
    have s3052 := (fh3015 58 (by decide)).trans s3003
    have s3053 := (fh3015 60 (by decide)).trans s3004
    have s3054 := (fh3015 63 (by decide)).trans s3005
    have s3055 := (fh3015 65 (by decide)).trans s3006
    have s3056 := (fh3015 66 (by decide)).trans s3007
    have s3057 := (fh3015 68 (by decide)).trans s3008
    have s3058 := (fh3015 69 (by decide)).trans s3009
    have s3059 := (fh3015 70 (by decide)).trans s3010
    have s3060 := (fh3015 71 (by decide)).trans s3011
    clear G2930 dd2934 pr3013 rf2932 rf2933 rw2931 s2974 s2975 s2976 s2977 s2978 s2979 s2980 s2981 s2982 s2983 s2984 s2985 s2986 s2987 s2988 s2989 s2990 s2991 s2992 s2993 s2994 s2995 s2996 s2997 s2998 s2999 s3000 s3001 s3002 s3003 s3004 s3005 s3006 s3007 s3008 s3009 s3010 s3011 sS3014
    refine gz_s 2 (pc' := 323) (L' := [some (.ref x), none, none, none, none]) (S' := [.int (zi 514), .ref x]) rfl ?_
    refine gs_newr 41 rfl (by decide) rfl sS3019.1 (Nat.le_of_lt (Nat.lt_of_le_of_lt (gJ.cell sS3019.1 t2936 rfl).1 (gJ.cell sS3019.1 t2936 rfl).2.1)) (by omega) (by omega) rfl rfl (by show (514 : Int) ≤ _; omega) (by show _ ≤ (514 : Int); omega) (fun _ _ => gos_i (by decide) (by decide)) (fun ty3061 h3062 c3063 g3064 tc3063 lc3063 nc3063 mc3063 ec3063 dc3063 uc3063 => ?_)
    have gac3063 : h.1 ≤ c3063 := by have h8 := G3017.2.1; have h9 := sS3019.2.1; omega
    have uq3065 := uc3063 uq2929 (Or.inr (gNo.sub (by decide +kernel) pr3012))
    have G3066 : gSg [1, 2, 3, 4, 5, 6, 7, 8, 9, 10, 11, 12, 13, 14, 15, 16, 17, 18, 19, 20, 21, 22, 23, 24, 25, 26, 27, 28, 29, 30, 31, 32, 33, 34, 35, 36, 37, 38, 39, 40, 41, 42, 200] [x] [8999, 10999, 31999] ty h ty3061 h3062 := gSg.tr (gSg.ss G3017 sS3019 (by decide)) g3064 (by decide) (by decide) (fun x hx => by cases hx)
    have rw3067 := gSg.raw g3064 rf3020 (fun w => by cases w)
    have rf3068 := (rw3067.2.2.1.trans kh3015)
    have rf3069 := (rw3067.2.2.2.trans rf3021)
    have dd3070 := gSg.rawd (ci := 12) (ps := [72, 71, 70, 69, 68, 66, 65, 63, 60, 58, 57, 56, 55, 54, 49, 40, 38, 37, 36, 35, 34, 33, 32, 31, 30, 29, 28, 27, 26, 25, 15, 14, 13, 12, 11, 10, 9, 4, 2]) g3064 rf3020 (fun w => by cases w) t2935 (by decide) dd3022
    have t3071 : ty3061 x = 200 := rw3067.1.trans t2935
    have t3072 : ty3061 c3 = 2 := gSg.typ g3064 sS3019.1 t2936 rTk_2
    have t3073 : ty3061 c23 = 3 := gSg.typ g3064 sS3019.1 t2937 rTk_3
    have t3074 : ty3061 c46 = 4 := gSg.typ g3064 sS3019.1 t2938 rTk_4
    have t3075 : ty3061 c72 = 5 := gSg.typ g3064 sS3019.1 t2939 rTk_5
    have t3076 : ty3061 c101 = 6 := gSg.typ g3064 sS3019.1 t2940 rTk_6
    have t3077 : ty3061 c133 = 7 := gSg.typ g3064 sS3019.1 t2941 rTk_7
    have t3078 : ty3061 c171 = 8 := gSg.typ g3064 sS3019.1 t2942 rTk_8
    have t3079 : ty3061 c209 = 9 := gSg.typ g3064 sS3019.1 t2943 rTk_9
    have t3080 : ty3061 c250 = 10 := gSg.typ g3064 sS3019.1 t2944 rTk_10
    have t3081 : ty3061 c294 = 11 := gSg.typ g3064 sS3019.1 t2945 rTk_11
    have t3082 : ty3061 c341 = 12 := gSg.typ g3064 sS3019.1 t2946 rTk_12
    have t3083 : ty3061 c391 = 13 := gSg.typ g3064 sS3019.1 t2947 rTk_13
    have t3084 : ty3061 c447 = 14 := gSg.typ g3064 sS3019.1 t2948 rTk_14
    have t3085 : ty3061 c503 = 15 := gSg.typ g3064 sS3019.1 t2949 rTk_15
    have t3086 : ty3061 c562 = 16 := gSg.typ g3064 sS3019.1 t2950 rTk_16
    have t3087 : ty3061 c624 = 17 := gSg.typ g3064 sS3019.1 t2951 rTk_17
    have t3088 : ty3061 c689 = 18 := gSg.typ g3064 sS3019.1 t2952 rTk_18
    have t3089 : ty3061 c760 = 19 := gSg.typ g3064 sS3019.1 t2953 rTk_19
    have t3090 : ty3061 c831 = 20 := gSg.typ g3064 sS3019.1 t2954 rTk_20
    have t3091 : ty3061 c905 = 21 := gSg.typ g3064 sS3019.1 t2955 rTk_21
    have t3092 : ty3061 c982 = 22 := gSg.typ g3064 sS3019.1 t2956 rTk_22
    have t3093 : ty3061 c1065 = 23 := gSg.typ g3064 sS3019.1 t2957 rTk_23
    have t3094 : ty3061 c1148 = 24 := gSg.typ g3064 sS3019.1 t2958 rTk_24
    have t3095 : ty3061 c1234 = 25 := gSg.typ g3064 sS3019.1 t2959 rTk_25
    have t3096 : ty3061 c1323 = 26 := gSg.typ g3064 sS3019.1 t2960 rTk_26
    have t3097 : ty3061 c1420 = 27 := gSg.typ g3064 sS3019.1 t2961 rTk_27
    have t3098 : ty3061 c1517 = 28 := gSg.typ g3064 sS3019.1 t2962 rTk_28
    have t3099 : ty3061 c1617 = 29 := gSg.typ g3064 sS3019.1 t2963 rTk_29
    have t3100 : ty3061 c1723 = 30 := gSg.typ g3064 sS3019.1 t2964 rTk_30
    have t3101 : ty3061 c1829 = 31 := gSg.typ g3064 sS3019.1 t2965 rTk_31
    have t3102 : ty3061 c1938 = 32 := gSg.typ g3064 sS3019.1 t2966 rTk_32
    have t3103 : ty3061 c2053 = 33 := gSg.typ g3064 sS3019.1 t2967 rTk_33
    have t3104 : ty3061 c2168 = 34 := gSg.typ g3064 sS3019.1 t2968 rTk_34
    have t3105 : ty3061 c2286 = 35 := gSg.typ g3064 sS3019.1 t2969 rTk_35
    have t3106 : ty3061 c2410 = 36 := gSg.typ g3064 sS3019.1 t2970 rTk_36
    have t3107 : ty3061 c2534 = 37 := gSg.typ g3064 sS3019.1 t2971 rTk_37
    have t3108 : ty3061 c2661 = 38 := gSg.typ g3064 sS3019.1 t2972 rTk_38
    have t3109 : ty3061 c2794 = 39 := gSg.typ g3064 sS3019.1 t2973 rTk_39
    have t3110 : ty3061 c2927 = 40 := gSg.typ g3064 sS3019.1 tc2927 rTk_40
    have s3111 := gSg.rawat g3064 rf3020 (fun w => by cases w) t2935 (by decide) s3023
    have s3112 := gSg.rawat g3064 rf3020 (fun w => by cases w) t2935 (by decide) s3024
    have s3113 := gSg.rawat g3064 rf3020 (fun w => by cases w) t2935 (by decide) s3025
    have s3114 := gSg.rawat g3064 rf3020 (fun w => by cases w) t2935 (by decide) s3026
    have s3115 := gSg.rawat g3064 rf3020 (fun w => by cases w) t2935 (by decide) s3027
    have s3116 := gSg.rawat g3064 rf3020 (fun w => by cases w) t2935 (by decide) s3028
    have s3117 := gSg.rawat g3064 rf3020 (fun w => by cases w) t2935 (by decide) s3029
    have s3118 := gSg.rawat g3064 rf3020 (fun w => by cases w) t2935 (by decide) s3030
    have s3119 := gSg.rawat g3064 rf3020 (fun w => by cases w) t2935 (by decide) s3031
    have s3120 := gSg.rawat g3064 rf3020 (fun w => by cases w) t2935 (by decide) s3032
    have s3121 := gSg.rawat g3064 rf3020 (fun w => by cases w) t2935 (by decide) s3033
    have s3122 := gSg.rawat g3064 rf3020 (fun w => by cases w) t2935 (by decide) s3034
    have s3123 := gSg.rawat g3064 rf3020 (fun w => by cases w) t2935 (by decide) s3035
    have s3124 := gSg.rawat g3064 rf3020 (fun w => by cases w) t2935 (by decide) s3036
    have s3125 := gSg.rawat g3064 rf3020 (fun w => by cases w) t2935 (by decide) s3037
    have s3126 := gSg.rawat g3064 rf3020 (fun w => by cases w) t2935 (by decide) s3038
    have s3127 := gSg.rawat g3064 rf3020 (fun w => by cases w) t2935 (by decide) s3039
    have s3128 := gSg.rawat g3064 rf3020 (fun w => by cases w) t2935 (by decide) s3040
    have s3129 := gSg.rawat g3064 rf3020 (fun w => by cases w) t2935 (by decide) s3041
    have s3130 := gSg.rawat g3064 rf3020 (fun w => by cases w) t2935 (by decide) s3042
    have s3131 := gSg.rawat g3064 rf3020 (fun w => by cases w) t2935 (by decide) s3043
    have s3132 := gSg.rawat g3064 rf3020 (fun w => by cases w) t2935 (by decide) s3044
    have s3133 := gSg.rawat g3064 rf3020 (fun w => by cases w) t2935 (by decide) s3045
    have s3134 := gSg.rawat g3064 rf3020 (fun w => by cases w) t2935 (by decide) s3046
    have s3135 := gSg.rawat g3064 rf3020 (fun w => by cases w) t2935 (by decide) s3047
    have s3136 := gSg.rawat g3064 rf3020 (fun w => by cases w) t2935 (by decide) s3048
    have s3137 := gSg.rawat g3064 rf3020 (fun w => by cases w) t2935 (by decide) s3049
    have s3138 := gSg.rawat g3064 rf3020 (fun w => by cases w) t2935 (by decide) s3050
    have s3139 := gSg.rawat g3064 rf3020 (fun w => by cases w) t2935 (by decide) s3051
    have s3140 := gSg.rawat g3064 rf3020 (fun w => by cases w) t2935 (by decide) s3052
    have s3141 := gSg.rawat g3064 rf3020 (fun w => by cases w) t2935 (by decide) s3053
    have s3142 := gSg.rawat g3064 rf3020 (fun w => by cases w) t2935 (by decide) s3054
    have s3143 := gSg.rawat g3064 rf3020 (fun w => by cases w) t2935 (by decide) s3055
    have s3144 := gSg.rawat g3064 rf3020 (fun w => by cases w) t2935 (by decide) s3056
    have s3145 := gSg.rawat g3064 rf3020 (fun w => by cases w) t2935 (by decide) s3057
    have s3146 := gSg.rawat g3064 rf3020 (fun w => by cases w) t2935 (by decide) s3058
    have s3147 := gSg.rawat g3064 rf3020 (fun w => by cases w) t2935 (by decide) s3059
    have s3148 := gSg.rawat g3064 rf3020 (fun w => by cases w) t2935 (by decide) s3060
    have s3149 := gSg.rawat g3064 rf3020 (fun w => by cases w) t2935 (by decide) eh3015
    have pr3150 : gNo [1, 42] ty3061 := gNo.gr g3064 (by decide +kernel) (gNo.sub (by decide +kernel) pr3012)
    have pr3151 := gOyB.gr g3064 sS3019.1 rfl (by decide) (by decide) pr3018
    have sS3152 : gSs rT 1027 ty3061 [8999, 10999, 31999] h3062 h3062 := gSs.rf g3064.1
    clear G3017 dd3022 pr3012 pr3018 rf3020 rf3021 s3023 s3024 s3025 s3026 s3027 s3028 s3029 s3030 s3031 s3032 s3033 s3034 s3035 s3036 s3037 s3038 s3039 s3040 s3041 s3042 s3043 s3044 s3045 s3046 s3047 s3048 s3049 s3050 s3051 s3052 s3053 s3054 s3055 s3056 s3057 s3058 s3059 s3060 sS3019 t2935 t2936 t2937 t2938 t2939 t2940 t2941 t2942 t2943 t2944 t2945 t2946 t2947 t2948 t2949 t2950 t2951 t2952 t2953 t2954 t2955 t2956 t2957 t2958 t2959 t2960 t2961 t2962 t2963 t2964 t2965 t2966 t2967 t2968 t2969 t2970 t2971 t2972 t2973 uq2929
    refine gs_rput rfl (by decide) rfl sS3152.1 t3071 nx rw3067.2.1 rf3068 rfl (Or.inr rfl) (fun h3153 g3154 nh3153 mh3153 kh3153 zh3153 eh3153 fh3153 => ?_)
    have G3155 : gSg [1, 2, 3, 4, 5, 6, 7, 8, 9, 10, 11, 12, 13, 14, 15, 16, 17, 18, 19, 20, 21, 22, 23, 24, 25, 26, 27, 28, 29, 30, 31, 32, 33, 34, 35, 36, 37, 38, 39, 40, 41, 42, 200] [x] [8999, 10999, 31999] ty h ty3061 h3153 := gSg.tr (gSg.ss G3066 sS3152 (by decide)) g3154 (by decide) (by decide) (fun x hx => Or.inr hx)
    have pr3156 := gOyB.gr g3154 sS3152.1 rfl (by decide) (by decide) pr3151
    have sS3157 : gSs rT 1027 ty3061 [8999, 10999, 31999] h3153 h3153 := gSs.rf g3154.1
    have rf3158 := Nat.lt_of_lt_of_eq rw3067.2.1 nh3153.symm
    have rf3159 := zh3153.trans rf3069
    have dd3160 : ∀ k, ¬ k ∈ ([73, 72, 71, 70, 69, 68, 66, 65, 63, 60, 58, 57, 56, 55, 54, 49, 40, 38, 37, 36, 35, 34, 33, 32, 31, 30, 29, 28, 27, 26, 25, 15, 14, 13, 12, 11, 10, 9, 4, 2] : List Nat) → h3153.2.2.2.2 x k = defaultValue (gGG.2.1 12 k) := raw_dp fh3153 dd3070
    have s3161 := (fh3153 2 (by decide)).trans s3111
    have s3162 := (fh3153 4 (by decide)).trans s3112
    have s3163 := (fh3153 9 (by decide)).trans s3113
    have s3164 := (fh3153 10 (by decide)).trans s3114
    have s3165 := (fh3153 11 (by decide)).trans s3115
    have s3166 := (fh3153 12 (by decide)).trans s3116
    have s3167 := (fh3153 13 (by decide)).trans s3117
    have s3168 := (fh3153 14 (by decide)).trans s3118
    have s3169 := (fh3153 15 (by decide)).trans s3119
    have s3170 := (fh3153 25 (by decide)).trans s3120
    have s3171 := (fh3153 26 (by decide)).trans s3121
    have s3172 := (fh3153 27 (by decide)).trans s3122
    have s3173 := (fh3153 28 (by decide)).trans s3123
    have s3174 := (fh3153 29 (by decide)).trans s3124
    have s3175 := (fh3153 30 (by decide)).trans s3125
    have s3176 := (fh3153 31 (by decide)).trans s3126
    have s3177 := (fh3153 32 (by decide)).trans s3127
    have s3178 := (fh3153 33 (by decide)).trans s3128
    have s3179 := (fh3153 34 (by decide)).trans s3129
    have s3180 := (fh3153 35 (by decide)).trans s3130
    have s3181 := (fh3153 36 (by decide)).trans s3131
    have s3182 := (fh3153 37 (by decide)).trans s3132
    have s3183 := (fh3153 38 (by decide)).trans s3133
    have s3184 := (fh3153 40 (by decide)).trans s3134
    have s3185 := (fh3153 49 (by decide)).trans s3135
    have s3186 := (fh3153 54 (by decide)).trans s3136
    have s3187 := (fh3153 55 (by decide)).trans s3137
    have s3188 := (fh3153 56 (by decide)).trans s3138
    have s3189 := (fh3153 57 (by decide)).trans s3139
    have s3190 := (fh3153 58 (by decide)).trans s3140
    have s3191 := (fh3153 60 (by decide)).trans s3141
    have s3192 := (fh3153 63 (by decide)).trans s3142
    have s3193 := (fh3153 65 (by decide)).trans s3143
    have s3194 := (fh3153 66 (by decide)).trans s3144
    have s3195 := (fh3153 68 (by decide)).trans s3145
    have s3196 := (fh3153 69 (by decide)).trans s3146
    have s3197 := (fh3153 70 (by decide)).trans s3147
    have s3198 := (fh3153 71 (by decide)).trans s3148
    have s3199 := (fh3153 72 (by decide)).trans s3149
    clear G3066 dd3070 pr3151 rf3068 rf3069 rw3067 s3111 s3112 s3113 s3114 s3115 s3116 s3117 s3118 s3119 s3120 s3121 s3122 s3123 s3124 s3125 s3126 s3127 s3128 s3129 s3130 s3131 s3132 s3133 s3134 s3135 s3136 s3137 s3138 s3139 s3140 s3141 s3142 s3143 s3144 s3145 s3146 s3147 s3148 s3149 sS3152
    have lp3200 := cmlp3200 d hJ x nx c3 c23 c46 c72 c101 c133 c171 c209 c250 c294 c341 c391 c447 c503 c562 c624 c689 c760 c831 c905 c982 c1065 c1148 c1234 c1323 c1420 c1517 c1617 c1723 c1829 c1938 c2053 c2168 c2286 c2410 c2534 c2661 c2794 c2927 c3063
    have G3605 : gSg [1, 2, 3, 4, 5, 6, 7, 8, 9, 10, 11, 12, 13, 14, 15, 16, 17, 18, 19, 20, 21, 22, 23, 24, 25, 26, 27, 28, 29, 30, 31, 32, 33, 34, 35, 36, 37, 38, 39, 40, 41, 42, 200] [x] [8999, 10999, 31999] ty h ty3061 h3153 := gSg.ss G3155 sS3157 (by decide)
    exact gz_wk (lp3200 _ ty3061 h3153  (Nat.lt_succ_self _) G3605 uq3065 t3071 t3072 t3073 t3074 t3075 t3076 t3077 t3078 t3079 t3080 t3081 t3082 t3083 t3084 t3085 t3086 t3087 t3088 t3089 t3090 t3091 t3092 t3093 t3094 t3095 t3096 t3097 t3098 t3099 t3100 t3101 t3102 t3103 t3104 t3105 t3106 t3107 t3108 t3109 t3110 tc3063 (by omega) (by omega) s3161 s3162 s3163 s3164 s3165 s3166 s3167 s3168 s3169 s3170 s3171 s3172 s3173 s3174 s3175 s3176 s3177 s3178 s3179 s3180 s3181 s3182 s3183 s3184 s3185 s3186 s3187 s3188 s3189 s3190 s3191 s3192 s3193 s3194 s3195 s3196 s3197 s3198 s3199 eh3153 pr3150 pr3156 rf3158 kh3153 rf3159 dd3160) (gLw.s (gLw.n (gLw.n (gLw.n (gLw.n gLw.z)))))
set_option maxRecDepth 20000 in
set_option maxHeartbeats 4000000 in
theorem cmlp2405 (d : Nat) {ty : Nat → Nat} {h : gH} (hJ : gJ rT 1027 ty h) (x : Nat) (nx : 1027 ≤ x) (c3 c23 c46 c72 c101 c133 c171 c209 c250 c294 c341 c391 c447 c503 c562 c624 c689 c760 c831 c905 c982 c1065 c1148 c1234 c1323 c1420 c1517 c1617 c1723 c1829 c1938 c2053 c2168 c2286 : Nat) : ∀ (fu : Nat) (ty2407 : Nat → Nat) (h2406 : gH), ((1 : Int)).toNat < fu → gSg [1, 2, 3, 4, 5, 6, 7, 8, 9, 10, 11, 12, 13, 14, 15, 16, 17, 18, 19, 20, 21, 22, 23, 24, 25, 26, 27, 28, 29, 30, 31, 32, 33, 34, 35, 36, 37, 38, 39, 40, 41, 42, 200] [x] [8999, 10999, 31999] ty h ty2407 h2406 → gUq ty2407 → ty2407 x = 200 → ty2407 c3 = 2 → ty2407 c23 = 3 → ty2407 c46 = 4 → ty2407 c72 = 5 → ty2407 c101 = 6 → ty2407 c133 = 7 → ty2407 c171 = 8 → ty2407 c209 = 9 → ty2407 c250 = 10 → ty2407 c294 = 11 → ty2407 c341 = 12 → ty2407 c391 = 13 → ty2407 c447 = 14 → ty2407 c503 = 15 → ty2407 c562 = 16 → ty2407 c624 = 17 → ty2407 c689 = 18 → ty2407 c760 = 19 → ty2407 c831 = 20 → ty2407 c905 = 21 → ty2407 c982 = 22 → ty2407 c1065 = 23 → ty2407 c1148 = 24 → ty2407 c1234 = 25 → ty2407 c1323 = 26 → ty2407 c1420 = 27 → ty2407 c1517 = 28 → ty2407 c1617 = 29 → ty2407 c1723 = 30 → ty2407 c1829 = 31 → ty2407 c1938 = 32 → ty2407 c2053 = 33 → ty2407 c2168 = 34 → ty2407 c2286 = 35 → ((h2406.1 : Int) = h.1 + 34) → ((h2406.2.1 : Int) = h.2.1 + 85504) → h2406.2.2.2.2 x 2 = .ref c3 → h2406.2.2.2.2 x 4 = .ref c23 → h2406.2.2.2.2 x 9 = .ref c46 → h2406.2.2.2.2 x 10 = .ref c72 → h2406.2.2.2.2 x 11 = .ref c101 → h2406.2.2.2.2 x 12 = .ref c133 → h2406.2.2.2.2 x 13 = .ref c171 → h2406.2.2.2.2 x 14 = .ref c209 → h2406.2.2.2.2 x 15 = .ref c250 → h2406.2.2.2.2 x 25 = .ref c294 → h2406.2.2.2.2 x 26 = .ref c341 → h2406.2.2.2.2 x 27 = .ref c391 → h2406.2.2.2.2 x 28 = .ref c447 → h2406.2.2.2.2 x 29 = .ref c503 → h2406.2.2.2.2 x 30 = .ref c562 → h2406.2.2.2.2 x 31 = .ref c624 → h2406.2.2.2.2 x 32 = .ref c689 → h2406.2.2.2.2 x 33 = .ref c760 → h2406.2.2.2.2 x 34 = .ref c831 → h2406.2.2.2.2 x 35 = .ref c905 → h2406.2.2.2.2 x 36 = .ref c982 → h2406.2.2.2.2 x 37 = .ref c1065 → h2406.2.2.2.2 x 38 = .ref c1148 → h2406.2.2.2.2 x 40 = .ref c1234 → h2406.2.2.2.2 x 49 = .ref c1323 → h2406.2.2.2.2 x 54 = .ref c1420 → h2406.2.2.2.2 x 55 = .ref c1517 → h2406.2.2.2.2 x 56 = .ref c1617 → h2406.2.2.2.2 x 57 = .ref c1723 → h2406.2.2.2.2 x 58 = .ref c1829 → h2406.2.2.2.2 x 60 = .ref c1938 → h2406.2.2.2.2 x 63 = .ref c2053 → h2406.2.2.2.2 x 65 = .ref c2168 → h2406.2.2.2.2 x 66 = .ref c2286 → gNo [1, 36, 37, 38, 39, 40, 41, 42] ty2407 → gOyB ty2407 26 0 1024 h2406 → x < h2406.1 → h2406.2.2.1 x = some (.inr 12) → h2406.2.2.2.1 x = 0 → (∀ k, ¬ k ∈ ([66, 65, 63, 60, 58, 57, 56, 55, 54, 49, 40, 38, 37, 36, 35, 34, 33, 32, 31, 30, 29, 28, 27, 26, 25, 15, 14, 13, 12, 11, 10, 9, 4, 2] : List Nat) → h2406.2.2.2.2 x k = defaultValue (gGG.2.1 12 k)) → gz gPP gGG gcn (d + 1) gt130 274 [some (.ref x), none, none, none, none] [] h2406 (fun q _ => ∃ ty9 : Nat → Nat, gSg [1, 2, 3, 4, 5, 6, 7, 8, 9, 10, 11, 12, 13, 14, 15, 16, 17, 18, 19, 20, 21, 22, 23, 24, 25, 26, 27, 28, 29, 30, 31, 32, 33, 34, 35, 36, 37, 38, 39, 40, 41, 42, 200] [x] [8999, 10999, 31999] ty h ty9 q.2.2 ∧ ∃ ip n1 cw ch iv1 : Int, ty9 x = 1 ∧ gfin gt130 q.1 q.2.1 = some none ∧ q.2.2.2.2.2.2 x 16 = .int (zi ip) ∧ 0 ≤ ip ∧ ip ≤ 1 ∧ q.2.2.2.2.2.2 x 53 = .int (zi n1) ∧ 0 ≤ n1 ∧ n1 ≤ 10 ∧ q.2.2.2.2.2.2 x 50 = .int (zi cw) ∧ 0 ≤ cw ∧ cw ≤ 32 ∧ q.2.2.2.2.2.2 x 51 = .int (zi ch) ∧ 0 ≤ ch ∧ ch ≤ 32 ∧ q.2.2.2.2.2.2 x 52 = .int (zi iv1) ∧ 0 ≤ iv1 ∧ iv1 ≤ 100 ∧ (ip = 0) ∧ (n1 = 0) ∧ (cw = 0) ∧ (ch = 0) ∧ (iv1 = 0) ∧ ((q.2.2.1 : Int) = h.1 + 41) ∧ ((q.2.2.2.1 : Int) = h.2.1 + 88652) ∧ (gTs ty9 0 q.2.2) ∧ (gOyB ty9 26 0 1024 q.2.2) ∧ gUq ty9) := by
  intro fu
  induction fu with
  | zero => intro ty2407 h2406  hm; exact absurd hm (Nat.not_lt_zero _)
  | succ fu ihlp2405 =>
    intro ty2407 h2406  lp2405m lp2405G lp2405u lp2405c0 lp2405c1 lp2405c2 lp2405c3 lp2405c4 lp2405c5 lp2405c6 lp2405c7 lp2405c8 lp2405c9 lp2405c10 lp2405c11 lp2405c12 lp2405c13 lp2405c14 lp2405c15 lp2405c16 lp2405c17 lp2405c18 lp2405c19 lp2405c20 lp2405c21 lp2405c22 lp2405c23 lp2405c24 lp2405c25 lp2405c26 lp2405c27 lp2405c28 lp2405c29 lp2405c30 lp2405c31 lp2405c32 lp2405c33 lp2405c34 lp2405f0 lp2405f1 lp2405k0 lp2405k1 lp2405k2 lp2405k3 lp2405k4 lp2405k5 lp2405k6 lp2405k7 lp2405k8 lp2405k9 lp2405k10 lp2405k11 lp2405k12 lp2405k13 lp2405k14 lp2405k15 lp2405k16 lp2405k17 lp2405k18 lp2405k19 lp2405k20 lp2405k21 lp2405k22 lp2405k23 lp2405k24 lp2405k25 lp2405k26 lp2405k27 lp2405k28 lp2405k29 lp2405k30 lp2405k31 lp2405k32 lp2405k33 lp2405k34 lp2405k35 lp2405w0 lp2405w1 lp2405w2 lp2405w3
    have sh2406 : gSs rT 1027 ty2407 [8999, 10999, 31999] h2406 h2406 := gSs.rf lp2405G.1
    refine gz_s 2 (pc' := 278) (L' := [some (.ref x), none, none, none, none]) (S' := [.int (zi 514), .ref x]) rfl ?_
    refine gs_newr 36 rfl (by decide) rfl sh2406.1 (Nat.le_of_lt (Nat.lt_of_le_of_lt (gJ.cell sh2406.1 lp2405c1 rfl).1 (gJ.cell sh2406.1 lp2405c1 rfl).2.1)) (by omega) (by omega) rfl rfl (by show (514 : Int) ≤ _; omega) (by show _ ≤ (514 : Int); omega) (fun _ _ => gos_i (by decide) (by decide)) (fun ty2408 h2409 c2410 g2411 tc2410 lc2410 nc2410 mc2410 ec2410 dc2410 uc2410 => ?_)
    have gac2410 : h.1 ≤ c2410 := by have h8 := lp2405G.2.1; have h9 := sh2406.2.1; omega
    have uq2412 := uc2410 lp2405u (Or.inr (gNo.sub (by decide +kernel) lp2405k34))
    have G2413 : gSg [1, 2, 3, 4, 5, 6, 7, 8, 9, 10, 11, 12, 13, 14, 15, 16, 17, 18, 19, 20, 21, 22, 23, 24, 25, 26, 27, 28, 29, 30, 31, 32, 33, 34, 35, 36, 37, 38, 39, 40, 41, 42, 200] [x] [8999, 10999, 31999] ty h ty2408 h2409 := gSg.tr (gSg.ss lp2405G sh2406 (by decide)) g2411 (by decide) (by decide) (fun x hx => by cases hx)
    have rw2414 := gSg.raw g2411 lp2405w0 (fun w => by cases w)
    have rf2415 := (rw2414.2.2.1.trans lp2405w1)
    have rf2416 := (rw2414.2.2.2.trans lp2405w2)
    have dd2417 := gSg.rawd (ci := 12) (ps := [66, 65, 63, 60, 58, 57, 56, 55, 54, 49, 40, 38, 37, 36, 35, 34, 33, 32, 31, 30, 29, 28, 27, 26, 25, 15, 14, 13, 12, 11, 10, 9, 4, 2]) g2411 lp2405w0 (fun w => by cases w) lp2405c0 (by decide) lp2405w3
    have t2418 : ty2408 x = 200 := rw2414.1.trans lp2405c0
    have t2419 : ty2408 c3 = 2 := gSg.typ g2411 sh2406.1 lp2405c1 rTk_2
    have t2420 : ty2408 c23 = 3 := gSg.typ g2411 sh2406.1 lp2405c2 rTk_3
    have t2421 : ty2408 c46 = 4 := gSg.typ g2411 sh2406.1 lp2405c3 rTk_4
    have t2422 : ty2408 c72 = 5 := gSg.typ g2411 sh2406.1 lp2405c4 rTk_5
    have t2423 : ty2408 c101 = 6 := gSg.typ g2411 sh2406.1 lp2405c5 rTk_6
    have t2424 : ty2408 c133 = 7 := gSg.typ g2411 sh2406.1 lp2405c6 rTk_7
    have t2425 : ty2408 c171 = 8 := gSg.typ g2411 sh2406.1 lp2405c7 rTk_8
    have t2426 : ty2408 c209 = 9 := gSg.typ g2411 sh2406.1 lp2405c8 rTk_9
    have t2427 : ty2408 c250 = 10 := gSg.typ g2411 sh2406.1 lp2405c9 rTk_10
    have t2428 : ty2408 c294 = 11 := gSg.typ g2411 sh2406.1 lp2405c10 rTk_11
    have t2429 : ty2408 c341 = 12 := gSg.typ g2411 sh2406.1 lp2405c11 rTk_12
    have t2430 : ty2408 c391 = 13 := gSg.typ g2411 sh2406.1 lp2405c12 rTk_13
    have t2431 : ty2408 c447 = 14 := gSg.typ g2411 sh2406.1 lp2405c13 rTk_14
    have t2432 : ty2408 c503 = 15 := gSg.typ g2411 sh2406.1 lp2405c14 rTk_15
    have t2433 : ty2408 c562 = 16 := gSg.typ g2411 sh2406.1 lp2405c15 rTk_16
    have t2434 : ty2408 c624 = 17 := gSg.typ g2411 sh2406.1 lp2405c16 rTk_17
    have t2435 : ty2408 c689 = 18 := gSg.typ g2411 sh2406.1 lp2405c17 rTk_18
    have t2436 : ty2408 c760 = 19 := gSg.typ g2411 sh2406.1 lp2405c18 rTk_19
    have t2437 : ty2408 c831 = 20 := gSg.typ g2411 sh2406.1 lp2405c19 rTk_20
    have t2438 : ty2408 c905 = 21 := gSg.typ g2411 sh2406.1 lp2405c20 rTk_21
    have t2439 : ty2408 c982 = 22 := gSg.typ g2411 sh2406.1 lp2405c21 rTk_22
    have t2440 : ty2408 c1065 = 23 := gSg.typ g2411 sh2406.1 lp2405c22 rTk_23
    have t2441 : ty2408 c1148 = 24 := gSg.typ g2411 sh2406.1 lp2405c23 rTk_24
    have t2442 : ty2408 c1234 = 25 := gSg.typ g2411 sh2406.1 lp2405c24 rTk_25
    have t2443 : ty2408 c1323 = 26 := gSg.typ g2411 sh2406.1 lp2405c25 rTk_26
    have t2444 : ty2408 c1420 = 27 := gSg.typ g2411 sh2406.1 lp2405c26 rTk_27
    have t2445 : ty2408 c1517 = 28 := gSg.typ g2411 sh2406.1 lp2405c27 rTk_28
    have t2446 : ty2408 c1617 = 29 := gSg.typ g2411 sh2406.1 lp2405c28 rTk_29
    have t2447 : ty2408 c1723 = 30 := gSg.typ g2411 sh2406.1 lp2405c29 rTk_30
    have t2448 : ty2408 c1829 = 31 := gSg.typ g2411 sh2406.1 lp2405c30 rTk_31
    have t2449 : ty2408 c1938 = 32 := gSg.typ g2411 sh2406.1 lp2405c31 rTk_32
    have t2450 : ty2408 c2053 = 33 := gSg.typ g2411 sh2406.1 lp2405c32 rTk_33
    have t2451 : ty2408 c2168 = 34 := gSg.typ g2411 sh2406.1 lp2405c33 rTk_34
    have t2452 : ty2408 c2286 = 35 := gSg.typ g2411 sh2406.1 lp2405c34 rTk_35
    have s2453 := gSg.rawat g2411 lp2405w0 (fun w => by cases w) lp2405c0 (by decide) lp2405k0
    have s2454 := gSg.rawat g2411 lp2405w0 (fun w => by cases w) lp2405c0 (by decide) lp2405k1
    have s2455 := gSg.rawat g2411 lp2405w0 (fun w => by cases w) lp2405c0 (by decide) lp2405k2
    have s2456 := gSg.rawat g2411 lp2405w0 (fun w => by cases w) lp2405c0 (by decide) lp2405k3
    have s2457 := gSg.rawat g2411 lp2405w0 (fun w => by cases w) lp2405c0 (by decide) lp2405k4
    have s2458 := gSg.rawat g2411 lp2405w0 (fun w => by cases w) lp2405c0 (by decide) lp2405k5
    have s2459 := gSg.rawat g2411 lp2405w0 (fun w => by cases w) lp2405c0 (by decide) lp2405k6
    have s2460 := gSg.rawat g2411 lp2405w0 (fun w => by cases w) lp2405c0 (by decide) lp2405k7
    have s2461 := gSg.rawat g2411 lp2405w0 (fun w => by cases w) lp2405c0 (by decide) lp2405k8
    have s2462 := gSg.rawat g2411 lp2405w0 (fun w => by cases w) lp2405c0 (by decide) lp2405k9
    have s2463 := gSg.rawat g2411 lp2405w0 (fun w => by cases w) lp2405c0 (by decide) lp2405k10
    have s2464 := gSg.rawat g2411 lp2405w0 (fun w => by cases w) lp2405c0 (by decide) lp2405k11
    have s2465 := gSg.rawat g2411 lp2405w0 (fun w => by cases w) lp2405c0 (by decide) lp2405k12
    have s2466 := gSg.rawat g2411 lp2405w0 (fun w => by cases w) lp2405c0 (by decide) lp2405k13
    have s2467 := gSg.rawat g2411 lp2405w0 (fun w => by cases w) lp2405c0 (by decide) lp2405k14
    have s2468 := gSg.rawat g2411 lp2405w0 (fun w => by cases w) lp2405c0 (by decide) lp2405k15
    have s2469 := gSg.rawat g2411 lp2405w0 (fun w => by cases w) lp2405c0 (by decide) lp2405k16
    have s2470 := gSg.rawat g2411 lp2405w0 (fun w => by cases w) lp2405c0 (by decide) lp2405k17
    have s2471 := gSg.rawat g2411 lp2405w0 (fun w => by cases w) lp2405c0 (by decide) lp2405k18
    have s2472 := gSg.rawat g2411 lp2405w0 (fun w => by cases w) lp2405c0 (by decide) lp2405k19
    have s2473 := gSg.rawat g2411 lp2405w0 (fun w => by cases w) lp2405c0 (by decide) lp2405k20
    have s2474 := gSg.rawat g2411 lp2405w0 (fun w => by cases w) lp2405c0 (by decide) lp2405k21
    have s2475 := gSg.rawat g2411 lp2405w0 (fun w => by cases w) lp2405c0 (by decide) lp2405k22
    have s2476 := gSg.rawat g2411 lp2405w0 (fun w => by cases w) lp2405c0 (by decide) lp2405k23
    have s2477 := gSg.rawat g2411 lp2405w0 (fun w => by cases w) lp2405c0 (by decide) lp2405k24
    have s2478 := gSg.rawat g2411 lp2405w0 (fun w => by cases w) lp2405c0 (by decide) lp2405k25
    have s2479 := gSg.rawat g2411 lp2405w0 (fun w => by cases w) lp2405c0 (by decide) lp2405k26
    have s2480 := gSg.rawat g2411 lp2405w0 (fun w => by cases w) lp2405c0 (by decide) lp2405k27
    have s2481 := gSg.rawat g2411 lp2405w0 (fun w => by cases w) lp2405c0 (by decide) lp2405k28
    have s2482 := gSg.rawat g2411 lp2405w0 (fun w => by cases w) lp2405c0 (by decide) lp2405k29
    have s2483 := gSg.rawat g2411 lp2405w0 (fun w => by cases w) lp2405c0 (by decide) lp2405k30
    have s2484 := gSg.rawat g2411 lp2405w0 (fun w => by cases w) lp2405c0 (by decide) lp2405k31
    have s2485 := gSg.rawat g2411 lp2405w0 (fun w => by cases w) lp2405c0 (by decide) lp2405k32
    have s2486 := gSg.rawat g2411 lp2405w0 (fun w => by cases w) lp2405c0 (by decide) lp2405k33
    have pr2487 : gNo [1, 37, 38, 39, 40, 41, 42] ty2408 := gNo.gr g2411 (by decide +kernel) (gNo.sub (by decide +kernel) lp2405k34)
    have pr2488 := gOyB.gr g2411 sh2406.1 rfl (by decide) (by decide) lp2405k35
    have sS2489 : gSs rT 1027 ty2408 [8999, 10999, 31999] h2409 h2409 := gSs.rf g2411.1
    refine gs_rput rfl (by decide) rfl sS2489.1 t2418 nx rw2414.2.1 rf2415 rfl (Or.inr rfl) (fun h2490 g2491 nh2490 mh2490 kh2490 zh2490 eh2490 fh2490 => ?_)
    have G2492 : gSg [1, 2, 3, 4, 5, 6, 7, 8, 9, 10, 11, 12, 13, 14, 15, 16, 17, 18, 19, 20, 21, 22, 23, 24, 25, 26, 27, 28, 29, 30, 31, 32, 33, 34, 35, 36, 37, 38, 39, 40, 41, 42, 200] [x] [8999, 10999, 31999] ty h ty2408 h2490 := gSg.tr (gSg.ss G2413 sS2489 (by decide)) g2491 (by decide) (by decide) (fun x hx => Or.inr hx)
    have pr2493 := gOyB.gr g2491 sS2489.1 rfl (by decide) (by decide) pr2488
    have sS2494 : gSs rT 1027 ty2408 [8999, 10999, 31999] h2490 h2490 := gSs.rf g2491.1
    have rf2495 := Nat.lt_of_lt_of_eq rw2414.2.1 nh2490.symm
    have rf2496 := zh2490.trans rf2416
    have dd2497 : ∀ k, ¬ k ∈ ([68, 66, 65, 63, 60, 58, 57, 56, 55, 54, 49, 40, 38, 37, 36, 35, 34, 33, 32, 31, 30, 29, 28, 27, 26, 25, 15, 14, 13, 12, 11, 10, 9, 4, 2] : List Nat) → h2490.2.2.2.2 x k = defaultValue (gGG.2.1 12 k) := raw_dp fh2490 dd2417
    have s2498 := (fh2490 2 (by decide)).trans s2453
    have s2499 := (fh2490 4 (by decide)).trans s2454
    have s2500 := (fh2490 9 (by decide)).trans s2455
    have s2501 := (fh2490 10 (by decide)).trans s2456
    have s2502 := (fh2490 11 (by decide)).trans s2457
    have s2503 := (fh2490 12 (by decide)).trans s2458
    have s2504 := (fh2490 13 (by decide)).trans s2459
    have s2505 := (fh2490 14 (by decide)).trans s2460
    have s2506 := (fh2490 15 (by decide)).trans s2461
    have s2507 := (fh2490 25 (by decide)).trans s2462
    have s2508 := (fh2490 26 (by decide)).trans s2463
    have s2509 := (fh2490 27 (by decide)).trans s2464
    have s2510 := (fh2490 28 (by decide)).trans s2465
    have s2511 := (fh2490 29 (by decide)).trans s2466
    have s2512 := (fh2490 30 (by decide)).trans s2467
    have s2513 := (fh2490 31 (by decide)).trans s2468
    have s2514 := (fh2490 32 (by decide)).trans s2469
    have s2515 := (fh2490 33 (by decide)).trans s2470
    have s2516 := (fh2490 34 (by decide)).trans s2471
    have s2517 := (fh2490 35 (by decide)).trans s2472
    have s2518 := (fh2490 36 (by decide)).trans s2473
    have s2519 := (fh2490 37 (by decide)).trans s2474
    have s2520 := (fh2490 38 (by decide)).trans s2475
    have s2521 := (fh2490 40 (by decide)).trans s2476
    have s2522 := (fh2490 49 (by decide)).trans s2477
    have s2523 := (fh2490 54 (by decide)).trans s2478
    have s2524 := (fh2490 55 (by decide)).trans s2479
    have s2525 := (fh2490 56 (by decide)).trans s2480
    have s2526 := (fh2490 57 (by decide)).trans s2481
    have s2527 := (fh2490 58 (by decide)).trans s2482
    have s2528 := (fh2490 60 (by decide)).trans s2483
    have s2529 := (fh2490 63 (by decide)).trans s2484
    have s2530 := (fh2490 65 (by decide)).trans s2485
    have s2531 := (fh2490 66 (by decide)).trans s2486
    clear G2413 dd2417 pr2488 rf2415 rf2416 rw2414 s2453 s2454 s2455 s2456 s2457 s2458 s2459 s2460 s2461 s2462 s2463 s2464 s2465 s2466 s2467 s2468 s2469 s2470 s2471 s2472 s2473 s2474 s2475 s2476 s2477 s2478 s2479 s2480 s2481 s2482 s2483 s2484 s2485 s2486 sS2489
    refine gz_s 2 (pc' := 287) (L' := [some (.ref x), none, none, none, none]) (S' := [.int (zi 514), .ref x]) rfl ?_
    refine gs_newr 37 rfl (by decide) rfl sS2494.1 (Nat.le_of_lt (Nat.lt_of_le_of_lt (gJ.cell sS2494.1 t2419 rfl).1 (gJ.cell sS2494.1 t2419 rfl).2.1)) (by omega) (by omega) rfl rfl (by show (514 : Int) ≤ _; omega) (by show _ ≤ (514 : Int); omega) (fun _ _ => gos_i (by decide) (by decide)) (fun ty2532 h2533 c2534 g2535 tc2534 lc2534 nc2534 mc2534 ec2534 dc2534 uc2534 => ?_)
    have gac2534 : h.1 ≤ c2534 := by have h8 := G2492.2.1; have h9 := sS2494.2.1; omega
    have uq2536 := uc2534 uq2412 (Or.inr (gNo.sub (by decide +kernel) pr2487))
    have G2537 : gSg [1, 2, 3, 4, 5, 6, 7, 8, 9, 10, 11, 12, 13, 14, 15, 16, 17, 18, 19, 20, 21, 22, 23, 24, 25, 26, 27, 28, 29, 30, 31, 32, 33, 34, 35, 36, 37, 38, 39, 40, 41, 42, 200] [x] [8999, 10999, 31999] ty h ty2532 h2533 := gSg.tr (gSg.ss G2492 sS2494 (by decide)) g2535 (by decide) (by decide) (fun x hx => by cases hx)
    have rw2538 := gSg.raw g2535 rf2495 (fun w => by cases w)
    have rf2539 := (rw2538.2.2.1.trans kh2490)
    have rf2540 := (rw2538.2.2.2.trans rf2496)
    have dd2541 := gSg.rawd (ci := 12) (ps := [68, 66, 65, 63, 60, 58, 57, 56, 55, 54, 49, 40, 38, 37, 36, 35, 34, 33, 32, 31, 30, 29, 28, 27, 26, 25, 15, 14, 13, 12, 11, 10, 9, 4, 2]) g2535 rf2495 (fun w => by cases w) t2418 (by decide) dd2497
    have t2542 : ty2532 x = 200 := rw2538.1.trans t2418
    have t2543 : ty2532 c3 = 2 := gSg.typ g2535 sS2494.1 t2419 rTk_2
    have t2544 : ty2532 c23 = 3 := gSg.typ g2535 sS2494.1 t2420 rTk_3
    have t2545 : ty2532 c46 = 4 := gSg.typ g2535 sS2494.1 t2421 rTk_4
    have t2546 : ty2532 c72 = 5 := gSg.typ g2535 sS2494.1 t2422 rTk_5
    have t2547 : ty2532 c101 = 6 := gSg.typ g2535 sS2494.1 t2423 rTk_6
    have t2548 : ty2532 c133 = 7 := gSg.typ g2535 sS2494.1 t2424 rTk_7
    have t2549 : ty2532 c171 = 8 := gSg.typ g2535 sS2494.1 t2425 rTk_8
    have t2550 : ty2532 c209 = 9 := gSg.typ g2535 sS2494.1 t2426 rTk_9
    have t2551 : ty2532 c250 = 10 := gSg.typ g2535 sS2494.1 t2427 rTk_10
    have t2552 : ty2532 c294 = 11 := gSg.typ g2535 sS2494.1 t2428 rTk_11
    have t2553 : ty2532 c341 = 12 := gSg.typ g2535 sS2494.1 t2429 rTk_12
    have t2554 : ty2532 c391 = 13 := gSg.typ g2535 sS2494.1 t2430 rTk_13
    have t2555 : ty2532 c447 = 14 := gSg.typ g2535 sS2494.1 t2431 rTk_14
    have t2556 : ty2532 c503 = 15 := gSg.typ g2535 sS2494.1 t2432 rTk_15
    have t2557 : ty2532 c562 = 16 := gSg.typ g2535 sS2494.1 t2433 rTk_16
    have t2558 : ty2532 c624 = 17 := gSg.typ g2535 sS2494.1 t2434 rTk_17
    have t2559 : ty2532 c689 = 18 := gSg.typ g2535 sS2494.1 t2435 rTk_18
    have t2560 : ty2532 c760 = 19 := gSg.typ g2535 sS2494.1 t2436 rTk_19
    have t2561 : ty2532 c831 = 20 := gSg.typ g2535 sS2494.1 t2437 rTk_20
    have t2562 : ty2532 c905 = 21 := gSg.typ g2535 sS2494.1 t2438 rTk_21
    have t2563 : ty2532 c982 = 22 := gSg.typ g2535 sS2494.1 t2439 rTk_22
    have t2564 : ty2532 c1065 = 23 := gSg.typ g2535 sS2494.1 t2440 rTk_23
    have t2565 : ty2532 c1148 = 24 := gSg.typ g2535 sS2494.1 t2441 rTk_24
    have t2566 : ty2532 c1234 = 25 := gSg.typ g2535 sS2494.1 t2442 rTk_25
    have t2567 : ty2532 c1323 = 26 := gSg.typ g2535 sS2494.1 t2443 rTk_26
    have t2568 : ty2532 c1420 = 27 := gSg.typ g2535 sS2494.1 t2444 rTk_27
    have t2569 : ty2532 c1517 = 28 := gSg.typ g2535 sS2494.1 t2445 rTk_28
    have t2570 : ty2532 c1617 = 29 := gSg.typ g2535 sS2494.1 t2446 rTk_29
    have t2571 : ty2532 c1723 = 30 := gSg.typ g2535 sS2494.1 t2447 rTk_30
    have t2572 : ty2532 c1829 = 31 := gSg.typ g2535 sS2494.1 t2448 rTk_31
    have t2573 : ty2532 c1938 = 32 := gSg.typ g2535 sS2494.1 t2449 rTk_32
    have t2574 : ty2532 c2053 = 33 := gSg.typ g2535 sS2494.1 t2450 rTk_33
    have t2575 : ty2532 c2168 = 34 := gSg.typ g2535 sS2494.1 t2451 rTk_34
    have t2576 : ty2532 c2286 = 35 := gSg.typ g2535 sS2494.1 t2452 rTk_35
    have t2577 : ty2532 c2410 = 36 := gSg.typ g2535 sS2494.1 tc2410 rTk_36
    have s2578 := gSg.rawat g2535 rf2495 (fun w => by cases w) t2418 (by decide) s2498
    have s2579 := gSg.rawat g2535 rf2495 (fun w => by cases w) t2418 (by decide) s2499
    have s2580 := gSg.rawat g2535 rf2495 (fun w => by cases w) t2418 (by decide) s2500
    have s2581 := gSg.rawat g2535 rf2495 (fun w => by cases w) t2418 (by decide) s2501
    have s2582 := gSg.rawat g2535 rf2495 (fun w => by cases w) t2418 (by decide) s2502
    have s2583 := gSg.rawat g2535 rf2495 (fun w => by cases w) t2418 (by decide) s2503
    have s2584 := gSg.rawat g2535 rf2495 (fun w => by cases w) t2418 (by decide) s2504
    have s2585 := gSg.rawat g2535 rf2495 (fun w => by cases w) t2418 (by decide) s2505
    have s2586 := gSg.rawat g2535 rf2495 (fun w => by cases w) t2418 (by decide) s2506
    have s2587 := gSg.rawat g2535 rf2495 (fun w => by cases w) t2418 (by decide) s2507
    have s2588 := gSg.rawat g2535 rf2495 (fun w => by cases w) t2418 (by decide) s2508
    have s2589 := gSg.rawat g2535 rf2495 (fun w => by cases w) t2418 (by decide) s2509
    have s2590 := gSg.rawat g2535 rf2495 (fun w => by cases w) t2418 (by decide) s2510
    have s2591 := gSg.rawat g2535 rf2495 (fun w => by cases w) t2418 (by decide) s2511
    have s2592 := gSg.rawat g2535 rf2495 (fun w => by cases w) t2418 (by decide) s2512
    have s2593 := gSg.rawat g2535 rf2495 (fun w => by cases w) t2418 (by decide) s2513
    have s2594 := gSg.rawat g2535 rf2495 (fun w => by cases w) t2418 (by decide) s2514
    have s2595 := gSg.rawat g2535 rf2495 (fun w => by cases w) t2418 (by decide) s2515
    have s2596 := gSg.rawat g2535 rf2495 (fun w => by cases w) t2418 (by decide) s2516
    have s2597 := gSg.rawat g2535 rf2495 (fun w => by cases w) t2418 (by decide) s2517
    have s2598 := gSg.rawat g2535 rf2495 (fun w => by cases w) t2418 (by decide) s2518
    have s2599 := gSg.rawat g2535 rf2495 (fun w => by cases w) t2418 (by decide) s2519
    have s2600 := gSg.rawat g2535 rf2495 (fun w => by cases w) t2418 (by decide) s2520
    have s2601 := gSg.rawat g2535 rf2495 (fun w => by cases w) t2418 (by decide) s2521
    have s2602 := gSg.rawat g2535 rf2495 (fun w => by cases w) t2418 (by decide) s2522
    have s2603 := gSg.rawat g2535 rf2495 (fun w => by cases w) t2418 (by decide) s2523
    have s2604 := gSg.rawat g2535 rf2495 (fun w => by cases w) t2418 (by decide) s2524
    have s2605 := gSg.rawat g2535 rf2495 (fun w => by cases w) t2418 (by decide) s2525
    have s2606 := gSg.rawat g2535 rf2495 (fun w => by cases w) t2418 (by decide) s2526
    have s2607 := gSg.rawat g2535 rf2495 (fun w => by cases w) t2418 (by decide) s2527
    have s2608 := gSg.rawat g2535 rf2495 (fun w => by cases w) t2418 (by decide) s2528
    have s2609 := gSg.rawat g2535 rf2495 (fun w => by cases w) t2418 (by decide) s2529
    have s2610 := gSg.rawat g2535 rf2495 (fun w => by cases w) t2418 (by decide) s2530
    have s2611 := gSg.rawat g2535 rf2495 (fun w => by cases w) t2418 (by decide) s2531
    have s2612 := gSg.rawat g2535 rf2495 (fun w => by cases w) t2418 (by decide) eh2490
    have pr2613 : gNo [1, 38, 39, 40, 41, 42] ty2532 := gNo.gr g2535 (by decide +kernel) (gNo.sub (by decide +kernel) pr2487)
    have pr2614 := gOyB.gr g2535 sS2494.1 rfl (by decide) (by decide) pr2493
    have sS2615 : gSs rT 1027 ty2532 [8999, 10999, 31999] h2533 h2533 := gSs.rf g2535.1
    clear G2492 dd2497 pr2487 pr2493 rf2495 rf2496 s2498 s2499 s2500 s2501 s2502 s2503 s2504 s2505 s2506 s2507 s2508 s2509 s2510 s2511 s2512 s2513 s2514 s2515 s2516 s2517 s2518 s2519 s2520 s2521 s2522 s2523 s2524 s2525 s2526 s2527 s2528 s2529 s2530 s2531 sS2494 t2418 t2419 t2420 t2421 t2422 t2423 t2424 t2425 t2426 t2427 t2428 t2429 t2430 t2431 t2432 t2433 t2434 t2435 t2436 t2437 t2438 t2439 t2440 t2441 t2442 t2443 t2444 t2445 t2446 t2447 t2448 t2449 t2450 t2451 t2452 uq2412
    refine gs_rput rfl (by decide) rfl sS2615.1 t2542 nx rw2538.2.1 rf2539 rfl (Or.inr rfl) (fun h2616 g2617 nh2616 mh2616 kh2616 zh2616 eh2616 fh2616 => ?_)
    have G2618 : gSg [1, 2, 3, 4, 5, 6, 7, 8, 9, 10, 11, 12, 13, 14, 15, 16, 17, 18, 19, 20, 21, 22, 23, 24, 25, 26, 27, 28, 29, 30, 31, 32, 33, 34, 35, 36, 37, 38, 39, 40, 41, 42, 200] [x] [8999, 10999, 31999] ty h ty2532 h2616 := gSg.tr (gSg.ss G2537 sS2615 (by decide)) g2617 (by decide) (by decide) (fun x hx => Or.inr hx)
    have pr2619 := gOyB.gr g2617 sS2615.1 rfl (by decide) (by decide) pr2614
    have sS2620 : gSs rT 1027 ty2532 [8999, 10999, 31999] h2616 h2616 := gSs.rf g2617.1
    have rf2621 := Nat.lt_of_lt_of_eq rw2538.2.1 nh2616.symm
    have rf2622 := zh2616.trans rf2540
    have dd2623 : ∀ k, ¬ k ∈ ([69, 68, 66, 65, 63, 60, 58, 57, 56, 55, 54, 49, 40, 38, 37, 36, 35, 34, 33, 32, 31, 30, 29, 28, 27, 26, 25, 15, 14, 13, 12, 11, 10, 9, 4, 2] : List Nat) → h2616.2.2.2.2 x k = defaultValue (gGG.2.1 12 k) := raw_dp fh2616 dd2541
    have s2624 := (fh2616 2 (by decide)).trans s2578
    have s2625 := (fh2616 4 (by decide)).trans s2579
    have s2626 := (fh2616 9 (by decide)).trans s2580
    have s2627 := (fh2616 10 (by decide)).trans s2581
    have s2628 := (fh2616 11 (by decide)).trans s2582
    have s2629 := (fh2616 12 (by decide)).trans s2583
    have s2630 := (fh2616 13 (by decide)).trans s2584
    have s2631 := (fh2616 14 (by decide)).trans s2585
    have s2632 := (fh2616 15 (by decide)).trans s2586
    have s2633 := (fh2616 25 (by decide)).trans s2587
    have s2634 := (fh2616 26 (by decide)).trans s2588
    have s2635 := (fh2616 27 (by decide)).trans s2589
    have s2636 := (fh2616 28 (by decide)).trans s2590
    have s2637 := (fh2616 29 (by decide)).trans s2591
    have s2638 := (fh2616 30 (by decide)).trans s2592
    have s2639 := (fh2616 31 (by decide)).trans s2593
    have s2640 := (fh2616 32 (by decide)).trans s2594
    have s2641 := (fh2616 33 (by decide)).trans s2595
    have s2642 := (fh2616 34 (by decide)).trans s2596
    have s2643 := (fh2616 35 (by decide)).trans s2597
    have s2644 := (fh2616 36 (by decide)).trans s2598
    have s2645 := (fh2616 37 (by decide)).trans s2599
    have s2646 := (fh2616 38 (by decide)).trans s2600
    have s2647 := (fh2616 40 (by decide)).trans s2601
    have s2648 := (fh2616 49 (by decide)).trans s2602
    have s2649 := (fh2616 54 (by decide)).trans s2603
    have s2650 := (fh2616 55 (by decide)).trans s2604
    have s2651 := (fh2616 56 (by decide)).trans s2605
    have s2652 := (fh2616 57 (by decide)).trans s2606
    have s2653 := (fh2616 58 (by decide)).trans s2607
    have s2654 := (fh2616 60 (by decide)).trans s2608
    have s2655 := (fh2616 63 (by decide)).trans s2609
    have s2656 := (fh2616 65 (by decide)).trans s2610
    have s2657 := (fh2616 66 (by decide)).trans s2611
    have s2658 := (fh2616 68 (by decide)).trans s2612
    clear G2537 dd2541 pr2614 rf2539 rf2540 rw2538 s2578 s2579 s2580 s2581 s2582 s2583 s2584 s2585 s2586 s2587 s2588 s2589 s2590 s2591 s2592 s2593 s2594 s2595 s2596 s2597 s2598 s2599 s2600 s2601 s2602 s2603 s2604 s2605 s2606 s2607 s2608 s2609 s2610 s2611 s2612 sS2615
    refine gz_s 2 (pc' := 296) (L' := [some (.ref x), none, none, none, none]) (S' := [.int (zi 514), .ref x]) rfl ?_
    refine gs_newr 38 rfl (by decide) rfl sS2620.1 (Nat.le_of_lt (Nat.lt_of_le_of_lt (gJ.cell sS2620.1 t2543 rfl).1 (gJ.cell sS2620.1 t2543 rfl).2.1)) (by omega) (by omega) rfl rfl (by show (514 : Int) ≤ _; omega) (by show _ ≤ (514 : Int); omega) (fun _ _ => gos_i (by decide) (by decide)) (fun ty2659 h2660 c2661 g2662 tc2661 lc2661 nc2661 mc2661 ec2661 dc2661 uc2661 => ?_)
    have gac2661 : h.1 ≤ c2661 := by have h8 := G2618.2.1; have h9 := sS2620.2.1; omega
    have uq2663 := uc2661 uq2536 (Or.inr (gNo.sub (by decide +kernel) pr2613))
    have G2664 : gSg [1, 2, 3, 4, 5, 6, 7, 8, 9, 10, 11, 12, 13, 14, 15, 16, 17, 18, 19, 20, 21, 22, 23, 24, 25, 26, 27, 28, 29, 30, 31, 32, 33, 34, 35, 36, 37, 38, 39, 40, 41, 42, 200] [x] [8999, 10999, 31999] ty h ty2659 h2660 := gSg.tr (gSg.ss G2618 sS2620 (by decide)) g2662 (by decide) (by decide) (fun x hx => by cases hx)
    have rw2665 := gSg.raw g2662 rf2621 (fun w => by cases w)
    have rf2666 := (rw2665.2.2.1.trans kh2616)
    have rf2667 := (rw2665.2.2.2.trans rf2622)
    have dd2668 := gSg.rawd (ci := 12) (ps := [69, 68, 66, 65, 63, 60, 58, 57, 56, 55, 54, 49, 40, 38, 37, 36, 35, 34, 33, 32, 31, 30, 29, 28, 27, 26, 25, 15, 14, 13, 12, 11, 10, 9, 4, 2]) g2662 rf2621 (fun w => by cases w) t2542 (by decide) dd2623
    have t2669 : ty2659 x = 200 := rw2665.1.trans t2542
    have t2670 : ty2659 c3 = 2 := gSg.typ g2662 sS2620.1 t2543 rTk_2
    have t2671 : ty2659 c23 = 3 := gSg.typ g2662 sS2620.1 t2544 rTk_3
    have t2672 : ty2659 c46 = 4 := gSg.typ g2662 sS2620.1 t2545 rTk_4
    have t2673 : ty2659 c72 = 5 := gSg.typ g2662 sS2620.1 t2546 rTk_5
    have t2674 : ty2659 c101 = 6 := gSg.typ g2662 sS2620.1 t2547 rTk_6
    have t2675 : ty2659 c133 = 7 := gSg.typ g2662 sS2620.1 t2548 rTk_7
    have t2676 : ty2659 c171 = 8 := gSg.typ g2662 sS2620.1 t2549 rTk_8
    have t2677 : ty2659 c209 = 9 := gSg.typ g2662 sS2620.1 t2550 rTk_9
    have t2678 : ty2659 c250 = 10 := gSg.typ g2662 sS2620.1 t2551 rTk_10
    have t2679 : ty2659 c294 = 11 := gSg.typ g2662 sS2620.1 t2552 rTk_11
    have t2680 : ty2659 c341 = 12 := gSg.typ g2662 sS2620.1 t2553 rTk_12
    have t2681 : ty2659 c391 = 13 := gSg.typ g2662 sS2620.1 t2554 rTk_13
    have t2682 : ty2659 c447 = 14 := gSg.typ g2662 sS2620.1 t2555 rTk_14
    have t2683 : ty2659 c503 = 15 := gSg.typ g2662 sS2620.1 t2556 rTk_15
    have t2684 : ty2659 c562 = 16 := gSg.typ g2662 sS2620.1 t2557 rTk_16
    have t2685 : ty2659 c624 = 17 := gSg.typ g2662 sS2620.1 t2558 rTk_17
    have t2686 : ty2659 c689 = 18 := gSg.typ g2662 sS2620.1 t2559 rTk_18
    have t2687 : ty2659 c760 = 19 := gSg.typ g2662 sS2620.1 t2560 rTk_19
    have t2688 : ty2659 c831 = 20 := gSg.typ g2662 sS2620.1 t2561 rTk_20
    have t2689 : ty2659 c905 = 21 := gSg.typ g2662 sS2620.1 t2562 rTk_21
    have t2690 : ty2659 c982 = 22 := gSg.typ g2662 sS2620.1 t2563 rTk_22
    have t2691 : ty2659 c1065 = 23 := gSg.typ g2662 sS2620.1 t2564 rTk_23
    have t2692 : ty2659 c1148 = 24 := gSg.typ g2662 sS2620.1 t2565 rTk_24
    have t2693 : ty2659 c1234 = 25 := gSg.typ g2662 sS2620.1 t2566 rTk_25
    have t2694 : ty2659 c1323 = 26 := gSg.typ g2662 sS2620.1 t2567 rTk_26
    have t2695 : ty2659 c1420 = 27 := gSg.typ g2662 sS2620.1 t2568 rTk_27
    have t2696 : ty2659 c1517 = 28 := gSg.typ g2662 sS2620.1 t2569 rTk_28
    have t2697 : ty2659 c1617 = 29 := gSg.typ g2662 sS2620.1 t2570 rTk_29
    have t2698 : ty2659 c1723 = 30 := gSg.typ g2662 sS2620.1 t2571 rTk_30
    have t2699 : ty2659 c1829 = 31 := gSg.typ g2662 sS2620.1 t2572 rTk_31
    have t2700 : ty2659 c1938 = 32 := gSg.typ g2662 sS2620.1 t2573 rTk_32
    have t2701 : ty2659 c2053 = 33 := gSg.typ g2662 sS2620.1 t2574 rTk_33
    have t2702 : ty2659 c2168 = 34 := gSg.typ g2662 sS2620.1 t2575 rTk_34
    have t2703 : ty2659 c2286 = 35 := gSg.typ g2662 sS2620.1 t2576 rTk_35
    have t2704 : ty2659 c2410 = 36 := gSg.typ g2662 sS2620.1 t2577 rTk_36
    have t2705 : ty2659 c2534 = 37 := gSg.typ g2662 sS2620.1 tc2534 rTk_37
    have s2706 := gSg.rawat g2662 rf2621 (fun w => by cases w) t2542 (by decide) s2624
    have s2707 := gSg.rawat g2662 rf2621 (fun w => by cases w) t2542 (by decide) s2625
    have s2708 := gSg.rawat g2662 rf2621 (fun w => by cases w) t2542 (by decide) s2626
    have s2709 := gSg.rawat g2662 rf2621 (fun w => by cases w) t2542 (by decide) s2627
    have s2710 := gSg.rawat g2662 rf2621 (fun w => by cases w) t2542 (by decide) s2628
    have s2711 := gSg.rawat g2662 rf2621 (fun w => by cases w) t2542 (by decide) s2629
    have s2712 := gSg.rawat g2662 rf2621 (fun w => by cases w) t2542 (by decide) s2630
    have s2713 := gSg.rawat g2662 rf2621 (fun w => by cases w) t2542 (by decide) s2631
    have s2714 := gSg.rawat g2662 rf2621 (fun w => by cases w) t2542 (by decide) s2632
    have s2715 := gSg.rawat g2662 rf2621 (fun w => by cases w) t2542 (by decide) s2633
    have s2716 := gSg.rawat g2662 rf2621 (fun w => by cases w) t2542 (by decide) s2634
    have s2717 := gSg.rawat g2662 rf2621 (fun w => by cases w) t2542 (by decide) s2635
    have s2718 := gSg.rawat g2662 rf2621 (fun w => by cases w) t2542 (by decide) s2636
    have s2719 := gSg.rawat g2662 rf2621 (fun w => by cases w) t2542 (by decide) s2637
    have s2720 := gSg.rawat g2662 rf2621 (fun w => by cases w) t2542 (by decide) s2638
    have s2721 := gSg.rawat g2662 rf2621 (fun w => by cases w) t2542 (by decide) s2639
    have s2722 := gSg.rawat g2662 rf2621 (fun w => by cases w) t2542 (by decide) s2640
    have s2723 := gSg.rawat g2662 rf2621 (fun w => by cases w) t2542 (by decide) s2641
    have s2724 := gSg.rawat g2662 rf2621 (fun w => by cases w) t2542 (by decide) s2642
    have s2725 := gSg.rawat g2662 rf2621 (fun w => by cases w) t2542 (by decide) s2643
    have s2726 := gSg.rawat g2662 rf2621 (fun w => by cases w) t2542 (by decide) s2644
    have s2727 := gSg.rawat g2662 rf2621 (fun w => by cases w) t2542 (by decide) s2645
    have s2728 := gSg.rawat g2662 rf2621 (fun w => by cases w) t2542 (by decide) s2646
    have s2729 := gSg.rawat g2662 rf2621 (fun w => by cases w) t2542 (by decide) s2647
    have s2730 := gSg.rawat g2662 rf2621 (fun w => by cases w) t2542 (by decide) s2648
    have s2731 := gSg.rawat g2662 rf2621 (fun w => by cases w) t2542 (by decide) s2649
    have s2732 := gSg.rawat g2662 rf2621 (fun w => by cases w) t2542 (by decide) s2650
    have s2733 := gSg.rawat g2662 rf2621 (fun w => by cases w) t2542 (by decide) s2651
    have s2734 := gSg.rawat g2662 rf2621 (fun w => by cases w) t2542 (by decide) s2652
    have s2735 := gSg.rawat g2662 rf2621 (fun w => by cases w) t2542 (by decide) s2653
    have s2736 := gSg.rawat g2662 rf2621 (fun w => by cases w) t2542 (by decide) s2654
    have s2737 := gSg.rawat g2662 rf2621 (fun w => by cases w) t2542 (by decide) s2655
    have s2738 := gSg.rawat g2662 rf2621 (fun w => by cases w) t2542 (by decide) s2656
    have s2739 := gSg.rawat g2662 rf2621 (fun w => by cases w) t2542 (by decide) s2657
    have s2740 := gSg.rawat g2662 rf2621 (fun w => by cases w) t2542 (by decide) s2658
    have s2741 := gSg.rawat g2662 rf2621 (fun w => by cases w) t2542 (by decide) eh2616
    have pr2742 : gNo [1, 39, 40, 41, 42] ty2659 := gNo.gr g2662 (by decide +kernel) (gNo.sub (by decide +kernel) pr2613)
    have pr2743 := gOyB.gr g2662 sS2620.1 rfl (by decide) (by decide) pr2619
    have sS2744 : gSs rT 1027 ty2659 [8999, 10999, 31999] h2660 h2660 := gSs.rf g2662.1
    clear G2618 dd2623 pr2613 pr2619 rf2621 rf2622 s2624 s2625 s2626 s2627 s2628 s2629 s2630 s2631 s2632 s2633 s2634 s2635 s2636 s2637 s2638 s2639 s2640 s2641 s2642 s2643 s2644 s2645 s2646 s2647 s2648 s2649 s2650 s2651 s2652 s2653 s2654 s2655 s2656 s2657 s2658 sS2620 t2542 t2543 t2544 t2545 t2546 t2547 t2548 t2549 t2550 t2551 t2552 t2553 t2554 t2555 t2556 t2557 t2558 t2559 t2560 t2561 t2562 t2563 t2564 t2565 t2566 t2567 t2568 t2569 t2570 t2571 t2572 t2573 t2574 t2575 t2576 t2577 uq2536
    refine gs_rput rfl (by decide) rfl sS2744.1 t2669 nx rw2665.2.1 rf2666 rfl (Or.inr rfl) (fun h2745 g2746 nh2745 mh2745 kh2745 zh2745 eh2745 fh2745 => ?_)
    have G2747 : gSg [1, 2, 3, 4, 5, 6, 7, 8, 9, 10, 11, 12, 13, 14, 15, 16, 17, 18, 19, 20, 21, 22, 23, 24, 25, 26, 27, 28, 29, 30, 31, 32, 33, 34, 35, 36, 37, 38, 39, 40, 41, 42, 200] [x] [8999, 10999, 31999] ty h ty2659 h2745 := gSg.tr (gSg.ss G2664 sS2744 (by decide)) g2746 (by decide) (by decide) (fun x hx => Or.inr hx)
    have pr2748 := gOyB.gr g2746 sS2744.1 rfl (by decide) (by decide) pr2743
    have sS2749 : gSs rT 1027 ty2659 [8999, 10999, 31999] h2745 h2745 := gSs.rf g2746.1
    have rf2750 := Nat.lt_of_lt_of_eq rw2665.2.1 nh2745.symm
    have rf2751 := zh2745.trans rf2667
    have dd2752 : ∀ k, ¬ k ∈ ([70, 69, 68, 66, 65, 63, 60, 58, 57, 56, 55, 54, 49, 40, 38, 37, 36, 35, 34, 33, 32, 31, 30, 29, 28, 27, 26, 25, 15, 14, 13, 12, 11, 10, 9, 4, 2] : List Nat) → h2745.2.2.2.2 x k = defaultValue (gGG.2.1 12 k) := raw_dp fh2745 dd2668
    have s2753 := (fh2745 2 (by decide)).trans s2706
    have s2754 := (fh2745 4 (by decide)).trans s2707
    have s2755 := (fh2745 9 (by decide)).trans s2708
    have s2756 := (fh2745 10 (by decide)).trans s2709
    have s2757 := (fh2745 11 (by decide)).trans s2710
    have s2758 := (fh2745 12 (by decide)).trans s2711
    have s2759 := (fh2745 13 (by decide)).trans s2712
    have s2760 := (fh2745 14 (by decide)).trans s2713
    have s2761 := (fh2745 15 (by decide)).trans s2714
    have s2762 := (fh2745 25 (by decide)).trans s2715
    have s2763 := (fh2745 26 (by decide)).trans s2716
    have s2764 := (fh2745 27 (by decide)).trans s2717
    have s2765 := (fh2745 28 (by decide)).trans s2718
    have s2766 := (fh2745 29 (by decide)).trans s2719
    have s2767 := (fh2745 30 (by decide)).trans s2720
    have s2768 := (fh2745 31 (by decide)).trans s2721
    have s2769 := (fh2745 32 (by decide)).trans s2722
    have s2770 := (fh2745 33 (by decide)).trans s2723
    have s2771 := (fh2745 34 (by decide)).trans s2724
    have s2772 := (fh2745 35 (by decide)).trans s2725
    have s2773 := (fh2745 36 (by decide)).trans s2726
    have s2774 := (fh2745 37 (by decide)).trans s2727
    have s2775 := (fh2745 38 (by decide)).trans s2728
    have s2776 := (fh2745 40 (by decide)).trans s2729
    have s2777 := (fh2745 49 (by decide)).trans s2730
    have s2778 := (fh2745 54 (by decide)).trans s2731
    have s2779 := (fh2745 55 (by decide)).trans s2732
    have s2780 := (fh2745 56 (by decide)).trans s2733
    have s2781 := (fh2745 57 (by decide)).trans s2734
    have s2782 := (fh2745 58 (by decide)).trans s2735
    have s2783 := (fh2745 60 (by decide)).trans s2736
    have s2784 := (fh2745 63 (by decide)).trans s2737
    have s2785 := (fh2745 65 (by decide)).trans s2738
    have s2786 := (fh2745 66 (by decide)).trans s2739
    have s2787 := (fh2745 68 (by decide)).trans s2740
    have s2788 := (fh2745 69 (by decide)).trans s2741
    clear G2664 dd2668 pr2743 rf2666 rf2667 rw2665 s2706 s2707 s2708 s2709 s2710 s2711 s2712 s2713 s2714 s2715 s2716 s2717 s2718 s2719 s2720 s2721 s2722 s2723 s2724 s2725 s2726 s2727 s2728 s2729 s2730 s2731 s2732 s2733 s2734 s2735 s2736 s2737 s2738 s2739 s2740 s2741 sS2744
    have lp2789 := cmlp2789 d hJ x nx c3 c23 c46 c72 c101 c133 c171 c209 c250 c294 c341 c391 c447 c503 c562 c624 c689 c760 c831 c905 c982 c1065 c1148 c1234 c1323 c1420 c1517 c1617 c1723 c1829 c1938 c2053 c2168 c2286 c2410 c2534 c2661
    have G3606 : gSg [1, 2, 3, 4, 5, 6, 7, 8, 9, 10, 11, 12, 13, 14, 15, 16, 17, 18, 19, 20, 21, 22, 23, 24, 25, 26, 27, 28, 29, 30, 31, 32, 33, 34, 35, 36, 37, 38, 39, 40, 41, 42, 200] [x] [8999, 10999, 31999] ty h ty2659 h2745 := gSg.ss G2747 sS2749 (by decide)
    exact gz_wk (lp2789 _ ty2659 h2745  (Nat.lt_succ_self _) G3606 uq2663 t2669 t2670 t2671 t2672 t2673 t2674 t2675 t2676 t2677 t2678 t2679 t2680 t2681 t2682 t2683 t2684 t2685 t2686 t2687 t2688 t2689 t2690 t2691 t2692 t2693 t2694 t2695 t2696 t2697 t2698 t2699 t2700 t2701 t2702 t2703 t2704 t2705 tc2661 (by omega) (by omega) s2753 s2754 s2755 s2756 s2757 s2758 s2759 s2760 s2761 s2762 s2763 s2764 s2765 s2766 s2767 s2768 s2769 s2770 s2771 s2772 s2773 s2774 s2775 s2776 s2777 s2778 s2779 s2780 s2781 s2782 s2783 s2784 s2785 s2786 s2787 s2788 eh2745 pr2742 pr2748 rf2750 kh2745 rf2751 dd2752) (gLw.s (gLw.n (gLw.n (gLw.n (gLw.n gLw.z)))))
set_option maxRecDepth 20000 in
set_option maxHeartbeats 4000000 in
theorem cmlp2048 (d : Nat) {ty : Nat → Nat} {h : gH} (hJ : gJ rT 1027 ty h) (x : Nat) (nx : 1027 ≤ x) (c3 c23 c46 c72 c101 c133 c171 c209 c250 c294 c341 c391 c447 c503 c562 c624 c689 c760 c831 c905 c982 c1065 c1148 c1234 c1323 c1420 c1517 c1617 c1723 c1829 c1938 : Nat) : ∀ (fu : Nat) (ty2050 : Nat → Nat) (h2049 : gH), ((1 : Int)).toNat < fu → gSg [1, 2, 3, 4, 5, 6, 7, 8, 9, 10, 11, 12, 13, 14, 15, 16, 17, 18, 19, 20, 21, 22, 23, 24, 25, 26, 27, 28, 29, 30, 31, 32, 33, 34, 35, 36, 37, 38, 39, 40, 41, 42, 200] [x] [8999, 10999, 31999] ty h ty2050 h2049 → gUq ty2050 → ty2050 x = 200 → ty2050 c3 = 2 → ty2050 c23 = 3 → ty2050 c46 = 4 → ty2050 c72 = 5 → ty2050 c101 = 6 → ty2050 c133 = 7 → ty2050 c171 = 8 → ty2050 c209 = 9 → ty2050 c250 = 10 → ty2050 c294 = 11 → ty2050 c341 = 12 → ty2050 c391 = 13 → ty2050 c447 = 14 → ty2050 c503 = 15 → ty2050 c562 = 16 → ty2050 c624 = 17 → ty2050 c689 = 18 → ty2050 c760 = 19 → ty2050 c831 = 20 → ty2050 c905 = 21 → ty2050 c982 = 22 → ty2050 c1065 = 23 → ty2050 c1148 = 24 → ty2050 c1234 = 25 → ty2050 c1323 = 26 → ty2050 c1420 = 27 → ty2050 c1517 = 28 → ty2050 c1617 = 29 → ty2050 c1723 = 30 → ty2050 c1829 = 31 → ty2050 c1938 = 32 → ((h2049.1 : Int) = h.1 + 31) → ((h2049.2.1 : Int) = h.2.1 + 84399) → h2049.2.2.2.2 x 2 = .ref c3 → h2049.2.2.2.2 x 4 = .ref c23 → h2049.2.2.2.2 x 9 = .ref c46 → h2049.2.2.2.2 x 10 = .ref c72 → h2049.2.2.2.2 x 11 = .ref c101 → h2049.2.2.2.2 x 12 = .ref c133 → h2049.2.2.2.2 x 13 = .ref c171 → h2049.2.2.2.2 x 14 = .ref c209 → h2049.2.2.2.2 x 15 = .ref c250 → h2049.2.2.2.2 x 25 = .ref c294 → h2049.2.2.2.2 x 26 = .ref c341 → h2049.2.2.2.2 x 27 = .ref c391 → h2049.2.2.2.2 x 28 = .ref c447 → h2049.2.2.2.2 x 29 = .ref c503 → h2049.2.2.2.2 x 30 = .ref c562 → h2049.2.2.2.2 x 31 = .ref c624 → h2049.2.2.2.2 x 32 = .ref c689 → h2049.2.2.2.2 x 33 = .ref c760 → h2049.2.2.2.2 x 34 = .ref c831 → h2049.2.2.2.2 x 35 = .ref c905 → h2049.2.2.2.2 x 36 = .ref c982 → h2049.2.2.2.2 x 37 = .ref c1065 → h2049.2.2.2.2 x 38 = .ref c1148 → h2049.2.2.2.2 x 40 = .ref c1234 → h2049.2.2.2.2 x 49 = .ref c1323 → h2049.2.2.2.2 x 54 = .ref c1420 → h2049.2.2.2.2 x 55 = .ref c1517 → h2049.2.2.2.2 x 56 = .ref c1617 → h2049.2.2.2.2 x 57 = .ref c1723 → h2049.2.2.2.2 x 58 = .ref c1829 → h2049.2.2.2.2 x 60 = .ref c1938 → gNo [1, 33, 34, 35, 36, 37, 38, 39, 40, 41, 42] ty2050 → gOyB ty2050 26 0 1024 h2049 → x < h2049.1 → h2049.2.2.1 x = some (.inr 12) → h2049.2.2.2.1 x = 0 → (∀ k, ¬ k ∈ ([60, 58, 57, 56, 55, 54, 49, 40, 38, 37, 36, 35, 34, 33, 32, 31, 30, 29, 28, 27, 26, 25, 15, 14, 13, 12, 11, 10, 9, 4, 2] : List Nat) → h2049.2.2.2.2 x k = defaultValue (gGG.2.1 12 k)) → gz gPP gGG gcn (d + 1) gt130 249 [some (.ref x), none, none, none, none] [] h2049 (fun q _ => ∃ ty9 : Nat → Nat, gSg [1, 2, 3, 4, 5, 6, 7, 8, 9, 10, 11, 12, 13, 14, 15, 16, 17, 18, 19, 20, 21, 22, 23, 24, 25, 26, 27, 28, 29, 30, 31, 32, 33, 34, 35, 36, 37, 38, 39, 40, 41, 42, 200] [x] [8999, 10999, 31999] ty h ty9 q.2.2 ∧ ∃ ip n1 cw ch iv1 : Int, ty9 x = 1 ∧ gfin gt130 q.1 q.2.1 = some none ∧ q.2.2.2.2.2.2 x 16 = .int (zi ip) ∧ 0 ≤ ip ∧ ip ≤ 1 ∧ q.2.2.2.2.2.2 x 53 = .int (zi n1) ∧ 0 ≤ n1 ∧ n1 ≤ 10 ∧ q.2.2.2.2.2.2 x 50 = .int (zi cw) ∧ 0 ≤ cw ∧ cw ≤ 32 ∧ q.2.2.2.2.2.2 x 51 = .int (zi ch) ∧ 0 ≤ ch ∧ ch ≤ 32 ∧ q.2.2.2.2.2.2 x 52 = .int (zi iv1) ∧ 0 ≤ iv1 ∧ iv1 ≤ 100 ∧ (ip = 0) ∧ (n1 = 0) ∧ (cw = 0) ∧ (ch = 0) ∧ (iv1 = 0) ∧ ((q.2.2.1 : Int) = h.1 + 41) ∧ ((q.2.2.2.1 : Int) = h.2.1 + 88652) ∧ (gTs ty9 0 q.2.2) ∧ (gOyB ty9 26 0 1024 q.2.2) ∧ gUq ty9) := by
  intro fu
  induction fu with
  | zero => intro ty2050 h2049  hm; exact absurd hm (Nat.not_lt_zero _)
  | succ fu ihlp2048 =>
    intro ty2050 h2049  lp2048m lp2048G lp2048u lp2048c0 lp2048c1 lp2048c2 lp2048c3 lp2048c4 lp2048c5 lp2048c6 lp2048c7 lp2048c8 lp2048c9 lp2048c10 lp2048c11 lp2048c12 lp2048c13 lp2048c14 lp2048c15 lp2048c16 lp2048c17 lp2048c18 lp2048c19 lp2048c20 lp2048c21 lp2048c22 lp2048c23 lp2048c24 lp2048c25 lp2048c26 lp2048c27 lp2048c28 lp2048c29 lp2048c30 lp2048c31 lp2048f0 lp2048f1 lp2048k0 lp2048k1 lp2048k2 lp2048k3 lp2048k4 lp2048k5 lp2048k6 lp2048k7 lp2048k8 lp2048k9 lp2048k10 lp2048k11 lp2048k12 lp2048k13 lp2048k14 lp2048k15 lp2048k16 lp2048k17 lp2048k18 lp2048k19 lp2048k20 lp2048k21 lp2048k22 lp2048k23 lp2048k24 lp2048k25 lp2048k26 lp2048k27 lp2048k28 lp2048k29 lp2048k30 lp2048k31 lp2048k32 lp2048w0 lp2048w1 lp2048w2 lp2048w3
    have sh2049 : gSs rT 1027 ty2050 [8999, 10999, 31999] h2049 h2049 := gSs.rf lp2048G.1
    refine gz_s 2 (pc' := 253) (L' := [some (.ref x), none, none, none, none]) (S' := [.int (zi 1024), .ref x]) rfl ?_
    refine gs_newr 33 rfl (by decide) rfl sh2049.1 (Nat.le_of_lt (Nat.lt_of_le_of_lt (gJ.cell sh2049.1 lp2048c1 rfl).1 (gJ.cell sh2049.1 lp2048c1 rfl).2.1)) (by omega) (by omega) rfl rfl (by show (1024 : Int) ≤ _; omega) (by show _ ≤ (1024 : Int); omega) (fun _ _ => gos_i (by decide) (by decide)) (fun ty2051 h2052 c2053 g2054 tc2053 lc2053 nc2053 mc2053 ec2053 dc2053 uc2053 => ?_)
    have gac2053 : h.1 ≤ c2053 := by have h8 := lp2048G.2.1; have h9 := sh2049.2.1; omega
    have uq2055 := uc2053 lp2048u (Or.inr (gNo.sub (by decide +kernel) lp2048k31))
    have G2056 : gSg [1, 2, 3, 4, 5, 6, 7, 8, 9, 10, 11, 12, 13, 14, 15, 16, 17, 18, 19, 20, 21, 22, 23, 24, 25, 26, 27, 28, 29, 30, 31, 32, 33, 34, 35, 36, 37, 38, 39, 40, 41, 42, 200] [x] [8999, 10999, 31999] ty h ty2051 h2052 := gSg.tr (gSg.ss lp2048G sh2049 (by decide)) g2054 (by decide) (by decide) (fun x hx => by cases hx)
    have rw2057 := gSg.raw g2054 lp2048w0 (fun w => by cases w)
    have rf2058 := (rw2057.2.2.1.trans lp2048w1)
    have rf2059 := (rw2057.2.2.2.trans lp2048w2)
    have dd2060 := gSg.rawd (ci := 12) (ps := [60, 58, 57, 56, 55, 54, 49, 40, 38, 37, 36, 35, 34, 33, 32, 31, 30, 29, 28, 27, 26, 25, 15, 14, 13, 12, 11, 10, 9, 4, 2]) g2054 lp2048w0 (fun w => by cases w) lp2048c0 (by decide) lp2048w3
    have t2061 : ty2051 x = 200 := rw2057.1.trans lp2048c0
    have t2062 : ty2051 c3 = 2 := gSg.typ g2054 sh2049.1 lp2048c1 rTk_2
    have t2063 : ty2051 c23 = 3 := gSg.typ g2054 sh2049.1 lp2048c2 rTk_3
    have t2064 : ty2051 c46 = 4 := gSg.typ g2054 sh2049.1 lp2048c3 rTk_4
    have t2065 : ty2051 c72 = 5 := gSg.typ g2054 sh2049.1 lp2048c4 rTk_5
    have t2066 : ty2051 c101 = 6 := gSg.typ g2054 sh2049.1 lp2048c5 rTk_6
    have t2067 : ty2051 c133 = 7 := gSg.typ g2054 sh2049.1 lp2048c6 rTk_7
    have t2068 : ty2051 c171 = 8 := gSg.typ g2054 sh2049.1 lp2048c7 rTk_8
    have t2069 : ty2051 c209 = 9 := gSg.typ g2054 sh2049.1 lp2048c8 rTk_9
    have t2070 : ty2051 c250 = 10 := gSg.typ g2054 sh2049.1 lp2048c9 rTk_10
    have t2071 : ty2051 c294 = 11 := gSg.typ g2054 sh2049.1 lp2048c10 rTk_11
    have t2072 : ty2051 c341 = 12 := gSg.typ g2054 sh2049.1 lp2048c11 rTk_12
    have t2073 : ty2051 c391 = 13 := gSg.typ g2054 sh2049.1 lp2048c12 rTk_13
    have t2074 : ty2051 c447 = 14 := gSg.typ g2054 sh2049.1 lp2048c13 rTk_14
    have t2075 : ty2051 c503 = 15 := gSg.typ g2054 sh2049.1 lp2048c14 rTk_15
    have t2076 : ty2051 c562 = 16 := gSg.typ g2054 sh2049.1 lp2048c15 rTk_16
    have t2077 : ty2051 c624 = 17 := gSg.typ g2054 sh2049.1 lp2048c16 rTk_17
    have t2078 : ty2051 c689 = 18 := gSg.typ g2054 sh2049.1 lp2048c17 rTk_18
    have t2079 : ty2051 c760 = 19 := gSg.typ g2054 sh2049.1 lp2048c18 rTk_19
    have t2080 : ty2051 c831 = 20 := gSg.typ g2054 sh2049.1 lp2048c19 rTk_20
    have t2081 : ty2051 c905 = 21 := gSg.typ g2054 sh2049.1 lp2048c20 rTk_21
    have t2082 : ty2051 c982 = 22 := gSg.typ g2054 sh2049.1 lp2048c21 rTk_22
    have t2083 : ty2051 c1065 = 23 := gSg.typ g2054 sh2049.1 lp2048c22 rTk_23
    have t2084 : ty2051 c1148 = 24 := gSg.typ g2054 sh2049.1 lp2048c23 rTk_24
    have t2085 : ty2051 c1234 = 25 := gSg.typ g2054 sh2049.1 lp2048c24 rTk_25
    have t2086 : ty2051 c1323 = 26 := gSg.typ g2054 sh2049.1 lp2048c25 rTk_26
    have t2087 : ty2051 c1420 = 27 := gSg.typ g2054 sh2049.1 lp2048c26 rTk_27
    have t2088 : ty2051 c1517 = 28 := gSg.typ g2054 sh2049.1 lp2048c27 rTk_28
    have t2089 : ty2051 c1617 = 29 := gSg.typ g2054 sh2049.1 lp2048c28 rTk_29
    have t2090 : ty2051 c1723 = 30 := gSg.typ g2054 sh2049.1 lp2048c29 rTk_30
    have t2091 : ty2051 c1829 = 31 := gSg.typ g2054 sh2049.1 lp2048c30 rTk_31
    have t2092 : ty2051 c1938 = 32 := gSg.typ g2054 sh2049.1 lp2048c31 rTk_32
    have s2093 := gSg.rawat g2054 lp2048w0 (fun w => by cases w) lp2048c0 (by decide) lp2048k0
    have s2094 := gSg.rawat g2054 lp2048w0 (fun w => by cases w) lp2048c0 (by decide) lp2048k1
    have s2095 := gSg.rawat g2054 lp2048w0 (fun w => by cases w) lp2048c0 (by decide) lp2048k2
    have s2096 := gSg.rawat g2054 lp2048w0 (fun w => by cases w) lp2048c0 (by decide) lp2048k3
    have s2097 := gSg.rawat g2054 lp2048w0 (fun w => by cases w) lp2048c0 (by decide) lp2048k4
    have s2098 := gSg.rawat g2054 lp2048w0 (fun w => by cases w) lp2048c0 (by decide) lp2048k5
    have s2099 := gSg.rawat g2054 lp2048w0 (fun w => by cases w) lp2048c0 (by decide) lp2048k6
    have s2100 := gSg.rawat g2054 lp2048w0 (fun w => by cases w) lp2048c0 (by decide) lp2048k7
    have s2101 := gSg.rawat g2054 lp2048w0 (fun w => by cases w) lp2048c0 (by decide) lp2048k8
    have s2102 := gSg.rawat g2054 lp2048w0 (fun w => by cases w) lp2048c0 (by decide) lp2048k9
    have s2103 := gSg.rawat g2054 lp2048w0 (fun w => by cases w) lp2048c0 (by decide) lp2048k10
    have s2104 := gSg.rawat g2054 lp2048w0 (fun w => by cases w) lp2048c0 (by decide) lp2048k11
    have s2105 := gSg.rawat g2054 lp2048w0 (fun w => by cases w) lp2048c0 (by decide) lp2048k12
    have s2106 := gSg.rawat g2054 lp2048w0 (fun w => by cases w) lp2048c0 (by decide) lp2048k13
    have s2107 := gSg.rawat g2054 lp2048w0 (fun w => by cases w) lp2048c0 (by decide) lp2048k14
    have s2108 := gSg.rawat g2054 lp2048w0 (fun w => by cases w) lp2048c0 (by decide) lp2048k15
    have s2109 := gSg.rawat g2054 lp2048w0 (fun w => by cases w) lp2048c0 (by decide) lp2048k16
    have s2110 := gSg.rawat g2054 lp2048w0 (fun w => by cases w) lp2048c0 (by decide) lp2048k17
    have s2111 := gSg.rawat g2054 lp2048w0 (fun w => by cases w) lp2048c0 (by decide) lp2048k18
    have s2112 := gSg.rawat g2054 lp2048w0 (fun w => by cases w) lp2048c0 (by decide) lp2048k19
    have s2113 := gSg.rawat g2054 lp2048w0 (fun w => by cases w) lp2048c0 (by decide) lp2048k20
    have s2114 := gSg.rawat g2054 lp2048w0 (fun w => by cases w) lp2048c0 (by decide) lp2048k21
    have s2115 := gSg.rawat g2054 lp2048w0 (fun w => by cases w) lp2048c0 (by decide) lp2048k22
    have s2116 := gSg.rawat g2054 lp2048w0 (fun w => by cases w) lp2048c0 (by decide) lp2048k23
    have s2117 := gSg.rawat g2054 lp2048w0 (fun w => by cases w) lp2048c0 (by decide) lp2048k24
    have s2118 := gSg.rawat g2054 lp2048w0 (fun w => by cases w) lp2048c0 (by decide) lp2048k25
    have s2119 := gSg.rawat g2054 lp2048w0 (fun w => by cases w) lp2048c0 (by decide) lp2048k26
    have s2120 := gSg.rawat g2054 lp2048w0 (fun w => by cases w) lp2048c0 (by decide) lp2048k27
    have s2121 := gSg.rawat g2054 lp2048w0 (fun w => by cases w) lp2048c0 (by decide) lp2048k28
    have s2122 := gSg.rawat g2054 lp2048w0 (fun w => by cases w) lp2048c0 (by decide) lp2048k29
    have s2123 := gSg.rawat g2054 lp2048w0 (fun w => by cases w) lp2048c0 (by decide) lp2048k30
    have pr2124 : gNo [1, 34, 35, 36, 37, 38, 39, 40, 41, 42] ty2051 := gNo.gr g2054 (by decide +kernel) (gNo.sub (by decide +kernel) lp2048k31)
    have pr2125 := gOyB.gr g2054 sh2049.1 rfl (by decide) (by decide) lp2048k32
    have sS2126 : gSs rT 1027 ty2051 [8999, 10999, 31999] h2052 h2052 := gSs.rf g2054.1
    refine gs_rput rfl (by decide) rfl sS2126.1 t2061 nx rw2057.2.1 rf2058 rfl (Or.inr rfl) (fun h2127 g2128 nh2127 mh2127 kh2127 zh2127 eh2127 fh2127 => ?_)
    have G2129 : gSg [1, 2, 3, 4, 5, 6, 7, 8, 9, 10, 11, 12, 13, 14, 15, 16, 17, 18, 19, 20, 21, 22, 23, 24, 25, 26, 27, 28, 29, 30, 31, 32, 33, 34, 35, 36, 37, 38, 39, 40, 41, 42, 200] [x] [8999, 10999, 31999] ty h ty2051 h2127 := gSg.tr (gSg.ss G2056 sS2126 (by decide)) g2128 (by decide) (by decide) (fun x hx => Or.inr hx)
    have pr2130 := gOyB.gr g2128 sS2126.1 rfl (by decide) (by decide) pr2125
    have sS2131 : gSs rT 1027 ty2051 [8999, 10999, 31999] h2127 h2127 := gSs.rf g2128.1
    have rf2132 := Nat.lt_of_lt_of_eq rw2057.2.1 nh2127.symm
    have rf2133 := zh2127.trans rf2059
    have dd2134 : ∀ k, ¬ k ∈ ([63, 60, 58, 57, 56, 55, 54, 49, 40, 38, 37, 36, 35, 34, 33, 32, 31, 30, 29, 28, 27, 26, 25, 15, 14, 13, 12, 11, 10, 9, 4, 2] : List Nat) → h2127.2.2.2.2 x k = defaultValue (gGG.2.1 12 k) := raw_dp fh2127 dd2060
    have s2135 := (fh2127 2 (by decide)).trans s2093
    have s2136 := (fh2127 4 (by decide)).trans s2094
    have s2137 := (fh2127 9 (by decide)).trans s2095
    have s2138 := (fh2127 10 (by decide)).trans s2096
    have s2139 := (fh2127 11 (by decide)).trans s2097
    have s2140 := (fh2127 12 (by decide)).trans s2098
    have s2141 := (fh2127 13 (by decide)).trans s2099
    have s2142 := (fh2127 14 (by decide)).trans s2100
    have s2143 := (fh2127 15 (by decide)).trans s2101
    have s2144 := (fh2127 25 (by decide)).trans s2102
    have s2145 := (fh2127 26 (by decide)).trans s2103
    have s2146 := (fh2127 27 (by decide)).trans s2104
    have s2147 := (fh2127 28 (by decide)).trans s2105
    have s2148 := (fh2127 29 (by decide)).trans s2106
    have s2149 := (fh2127 30 (by decide)).trans s2107
    have s2150 := (fh2127 31 (by decide)).trans s2108
    have s2151 := (fh2127 32 (by decide)).trans s2109
    have s2152 := (fh2127 33 (by decide)).trans s2110
    have s2153 := (fh2127 34 (by decide)).trans s2111
    have s2154 := (fh2127 35 (by decide)).trans s2112
    have s2155 := (fh2127 36 (by decide)).trans s2113
    have s2156 := (fh2127 37 (by decide)).trans s2114
    have s2157 := (fh2127 38 (by decide)).trans s2115
    have s2158 := (fh2127 40 (by decide)).trans s2116
    have s2159 := (fh2127 49 (by decide)).trans s2117
    have s2160 := (fh2127 54 (by decide)).trans s2118
    have s2161 := (fh2127 55 (by decide)).trans s2119
    have s2162 := (fh2127 56 (by decide)).trans s2120
    have s2163 := (fh2127 57 (by decide)).trans s2121
    have s2164 := (fh2127 58 (by decide)).trans s2122
    have s2165 := (fh2127 60 (by decide)).trans s2123
    clear G2056 dd2060 pr2125 rf2058 rf2059 rw2057 s2093 s2094 s2095 s2096 s2097 s2098 s2099 s2100 s2101 s2102 s2103 s2104 s2105 s2106 s2107 s2108 s2109 s2110 s2111 s2112 s2113 s2114 s2115 s2116 s2117 s2118 s2119 s2120 s2121 s2122 s2123 sS2126
    refine gz_s 2 (pc' := 261) (L' := [some (.ref x), none, none, none, none]) (S' := [.int (zi 64), .ref x]) rfl ?_
    refine gs_newr 34 rfl (by decide) rfl sS2131.1 (Nat.le_of_lt (Nat.lt_of_le_of_lt (gJ.cell sS2131.1 t2062 rfl).1 (gJ.cell sS2131.1 t2062 rfl).2.1)) (by omega) (by omega) rfl rfl (by show (64 : Int) ≤ _; omega) (by show _ ≤ (64 : Int); omega) (fun _ _ => gos_i (by decide) (by decide)) (fun ty2166 h2167 c2168 g2169 tc2168 lc2168 nc2168 mc2168 ec2168 dc2168 uc2168 => ?_)
    have gac2168 : h.1 ≤ c2168 := by have h8 := G2129.2.1; have h9 := sS2131.2.1; omega
    have uq2170 := uc2168 uq2055 (Or.inr (gNo.sub (by decide +kernel) pr2124))
    have G2171 : gSg [1, 2, 3, 4, 5, 6, 7, 8, 9, 10, 11, 12, 13, 14, 15, 16, 17, 18, 19, 20, 21, 22, 23, 24, 25, 26, 27, 28, 29, 30, 31, 32, 33, 34, 35, 36, 37, 38, 39, 40, 41, 42, 200] [x] [8999, 10999, 31999] ty h ty2166 h2167 := gSg.tr (gSg.ss G2129 sS2131 (by decide)) g2169 (by decide) (by decide) (fun x hx => by cases hx)
    have rw2172 := gSg.raw g2169 rf2132 (fun w => by cases w)
    have rf2173 := (rw2172.2.2.1.trans kh2127)
    have rf2174 := (rw2172.2.2.2.trans rf2133)
    have dd2175 := gSg.rawd (ci := 12) (ps := [63, 60, 58, 57, 56, 55, 54, 49, 40, 38, 37, 36, 35, 34, 33, 32, 31, 30, 29, 28, 27, 26, 25, 15, 14, 13, 12, 11, 10, 9, 4, 2]) g2169 rf2132 (fun w => by cases w) t2061 (by decide) dd2134
    have t2176 : ty2166 x = 200 := rw2172.1.trans t2061
    have t2177 : ty2166 c3 = 2 := gSg.typ g2169 sS2131.1 t2062 rTk_2
    have t2178 : ty2166 c23 = 3 := gSg.typ g2169 sS2131.1 t2063 rTk_3
    have t2179 : ty2166 c46 = 4 := gSg.typ g2169 sS2131.1 t2064 rTk_4
    have t2180 : ty2166 c72 = 5 := gSg.typ g2169 sS2131.1 t2065 rTk_5
    have t2181 : ty2166 c101 = 6 := gSg.typ g2169 sS2131.1 t2066 rTk_6
    have t2182 : ty2166 c133 = 7 := gSg.typ g2169 sS2131.1 t2067 rTk_7
    have t2183 : ty2166 c171 = 8 := gSg.typ g2169 sS2131.1 t2068 rTk_8
    have t2184 : ty2166 c209 = 9 := gSg.typ g2169 sS2131.1 t2069 rTk_9
    have t2185 : ty2166 c250 = 10 := gSg.typ g2169 sS2131.1 t2070 rTk_10
    have t2186 : ty2166 c294 = 11 := gSg.typ g2169 sS2131.1 t2071 rTk_11
    have t2187 : ty2166 c341 = 12 := gSg.typ g2169 sS2131.1 t2072 rTk_12
    have t2188 : ty2166 c391 = 13 := gSg.typ g2169 sS2131.1 t2073 rTk_13
    have t2189 : ty2166 c447 = 14 := gSg.typ g2169 sS2131.1 t2074 rTk_14
    have t2190 : ty2166 c503 = 15 := gSg.typ g2169 sS2131.1 t2075 rTk_15
    have t2191 : ty2166 c562 = 16 := gSg.typ g2169 sS2131.1 t2076 rTk_16
    have t2192 : ty2166 c624 = 17 := gSg.typ g2169 sS2131.1 t2077 rTk_17
    have t2193 : ty2166 c689 = 18 := gSg.typ g2169 sS2131.1 t2078 rTk_18
    have t2194 : ty2166 c760 = 19 := gSg.typ g2169 sS2131.1 t2079 rTk_19
    have t2195 : ty2166 c831 = 20 := gSg.typ g2169 sS2131.1 t2080 rTk_20
    have t2196 : ty2166 c905 = 21 := gSg.typ g2169 sS2131.1 t2081 rTk_21
    have t2197 : ty2166 c982 = 22 := gSg.typ g2169 sS2131.1 t2082 rTk_22
    have t2198 : ty2166 c1065 = 23 := gSg.typ g2169 sS2131.1 t2083 rTk_23
    have t2199 : ty2166 c1148 = 24 := gSg.typ g2169 sS2131.1 t2084 rTk_24
    have t2200 : ty2166 c1234 = 25 := gSg.typ g2169 sS2131.1 t2085 rTk_25
    have t2201 : ty2166 c1323 = 26 := gSg.typ g2169 sS2131.1 t2086 rTk_26
    have t2202 : ty2166 c1420 = 27 := gSg.typ g2169 sS2131.1 t2087 rTk_27
    have t2203 : ty2166 c1517 = 28 := gSg.typ g2169 sS2131.1 t2088 rTk_28
    have t2204 : ty2166 c1617 = 29 := gSg.typ g2169 sS2131.1 t2089 rTk_29
    have t2205 : ty2166 c1723 = 30 := gSg.typ g2169 sS2131.1 t2090 rTk_30
    have t2206 : ty2166 c1829 = 31 := gSg.typ g2169 sS2131.1 t2091 rTk_31
    have t2207 : ty2166 c1938 = 32 := gSg.typ g2169 sS2131.1 t2092 rTk_32
    have t2208 : ty2166 c2053 = 33 := gSg.typ g2169 sS2131.1 tc2053 rTk_33
    have s2209 := gSg.rawat g2169 rf2132 (fun w => by cases w) t2061 (by decide) s2135
    have s2210 := gSg.rawat g2169 rf2132 (fun w => by cases w) t2061 (by decide) s2136
    have s2211 := gSg.rawat g2169 rf2132 (fun w => by cases w) t2061 (by decide) s2137
    have s2212 := gSg.rawat g2169 rf2132 (fun w => by cases w) t2061 (by decide) s2138
    have s2213 := gSg.rawat g2169 rf2132 (fun w => by cases w) t2061 (by decide) s2139
    have s2214 := gSg.rawat g2169 rf2132 (fun w => by cases w) t2061 (by decide) s2140
    have s2215 := gSg.rawat g2169 rf2132 (fun w => by cases w) t2061 (by decide) s2141
    have s2216 := gSg.rawat g2169 rf2132 (fun w => by cases w) t2061 (by decide) s2142
    have s2217 := gSg.rawat g2169 rf2132 (fun w => by cases w) t2061 (by decide) s2143
    have s2218 := gSg.rawat g2169 rf2132 (fun w => by cases w) t2061 (by decide) s2144
    have s2219 := gSg.rawat g2169 rf2132 (fun w => by cases w) t2061 (by decide) s2145
    have s2220 := gSg.rawat g2169 rf2132 (fun w => by cases w) t2061 (by decide) s2146
    have s2221 := gSg.rawat g2169 rf2132 (fun w => by cases w) t2061 (by decide) s2147
    have s2222 := gSg.rawat g2169 rf2132 (fun w => by cases w) t2061 (by decide) s2148
    have s2223 := gSg.rawat g2169 rf2132 (fun w => by cases w) t2061 (by decide) s2149
    have s2224 := gSg.rawat g2169 rf2132 (fun w => by cases w) t2061 (by decide) s2150
    have s2225 := gSg.rawat g2169 rf2132 (fun w => by cases w) t2061 (by decide) s2151
    have s2226 := gSg.rawat g2169 rf2132 (fun w => by cases w) t2061 (by decide) s2152
    have s2227 := gSg.rawat g2169 rf2132 (fun w => by cases w) t2061 (by decide) s2153
    have s2228 := gSg.rawat g2169 rf2132 (fun w => by cases w) t2061 (by decide) s2154
    have s2229 := gSg.rawat g2169 rf2132 (fun w => by cases w) t2061 (by decide) s2155
    have s2230 := gSg.rawat g2169 rf2132 (fun w => by cases w) t2061 (by decide) s2156
    have s2231 := gSg.rawat g2169 rf2132 (fun w => by cases w) t2061 (by decide) s2157
    have s2232 := gSg.rawat g2169 rf2132 (fun w => by cases w) t2061 (by decide) s2158
    have s2233 := gSg.rawat g2169 rf2132 (fun w => by cases w) t2061 (by decide) s2159
    have s2234 := gSg.rawat g2169 rf2132 (fun w => by cases w) t2061 (by decide) s2160
    have s2235 := gSg.rawat g2169 rf2132 (fun w => by cases w) t2061 (by decide) s2161
    have s2236 := gSg.rawat g2169 rf2132 (fun w => by cases w) t2061 (by decide) s2162
    have s2237 := gSg.rawat g2169 rf2132 (fun w => by cases w) t2061 (by decide) s2163
    have s2238 := gSg.rawat g2169 rf2132 (fun w => by cases w) t2061 (by decide) s2164
    have s2239 := gSg.rawat g2169 rf2132 (fun w => by cases w) t2061 (by decide) s2165
    have s2240 := gSg.rawat g2169 rf2132 (fun w => by cases w) t2061 (by decide) eh2127
    have pr2241 : gNo [1, 35, 36, 37, 38, 39, 40, 41, 42] ty2166 := gNo.gr g2169 (by decide +kernel) (gNo.sub (by decide +kernel) pr2124)
    have pr2242 := gOyB.gr g2169 sS2131.1 rfl (by decide) (by decide) pr2130
    have sS2243 : gSs rT 1027 ty2166 [8999, 10999, 31999] h2167 h2167 := gSs.rf g2169.1
    clear G2129 dd2134 pr2124 pr2130 rf2132 rf2133 s2135 s2136 s2137 s2138 s2139 s2140 s2141 s2142 s2143 s2144 s2145 s2146 s2147 s2148 s2149 s2150 s2151 s2152 s2153 s2154 s2155 s2156 s2157 s2158 s2159 s2160 s2161 s2162 s2163 s2164 s2165 sS2131 t2061 t2062 t2063 t2064 t2065 t2066 t2067 t2068 t2069 t2070 t2071 t2072 t2073 t2074 t2075 t2076 t2077 t2078 t2079 t2080 t2081 t2082 t2083 t2084 t2085 t2086 t2087 t2088 t2089 t2090 t2091 t2092 uq2055
    refine gs_rput rfl (by decide) rfl sS2243.1 t2176 nx rw2172.2.1 rf2173 rfl (Or.inr rfl) (fun h2244 g2245 nh2244 mh2244 kh2244 zh2244 eh2244 fh2244 => ?_)
    have G2246 : gSg [1, 2, 3, 4, 5, 6, 7, 8, 9, 10, 11, 12, 13, 14, 15, 16, 17, 18, 19, 20, 21, 22, 23, 24, 25, 26, 27, 28, 29, 30, 31, 32, 33, 34, 35, 36, 37, 38, 39, 40, 41, 42, 200] [x] [8999, 10999, 31999] ty h ty2166 h2244 := gSg.tr (gSg.ss G2171 sS2243 (by decide)) g2245 (by decide) (by decide) (fun x hx => Or.inr hx)
    have pr2247 := gOyB.gr g2245 sS2243.1 rfl (by decide) (by decide) pr2242
    have sS2248 : gSs rT 1027 ty2166 [8999, 10999, 31999] h2244 h2244 := gSs.rf g2245.1
    have rf2249 := Nat.lt_of_lt_of_eq rw2172.2.1 nh2244.symm
    have rf2250 := zh2244.trans rf2174
    have dd2251 : ∀ k, ¬ k ∈ ([65, 63, 60, 58, 57, 56, 55, 54, 49, 40, 38, 37, 36, 35, 34, 33, 32, 31, 30, 29, 28, 27, 26, 25, 15, 14, 13, 12, 11, 10, 9, 4, 2] : List Nat) → h2244.2.2.2.2 x k = defaultValue (gGG.2.1 12 k) := raw_dp fh2244 dd2175
    have s2252 := (fh2244 2 (by decide)).trans s2209
    have s2253 := (fh2244 4 (by decide)).trans s2210
    have s2254 := (fh2244 9 (by decide)).trans s2211
    have s2255 := (fh2244 10 (by decide)).trans s2212
    have s2256 := (fh2244 11 (by decide)).trans s2213
    have s2257 := (fh2244 12 (by decide)).trans s2214
    have s2258 := (fh2244 13 (by decide)).trans s2215
    have s2259 := (fh2244 14 (by decide)).trans s2216
    have s2260 := (fh2244 15 (by decide)).trans s2217
    have s2261 := (fh2244 25 (by decide)).trans s2218
    have s2262 := (fh2244 26 (by decide)).trans s2219
    have s2263 := (fh2244 27 (by decide)).trans s2220
    have s2264 := (fh2244 28 (by decide)).trans s2221
    have s2265 := (fh2244 29 (by decide)).trans s2222
    have s2266 := (fh2244 30 (by decide)).trans s2223
    have s2267 := (fh2244 31 (by decide)).trans s2224
    have s2268 := (fh2244 32 (by decide)).trans s2225
    have s2269 := (fh2244 33 (by decide)).trans s2226
    have s2270 := (fh2244 34 (by decide)).trans s2227
    have s2271 := (fh2244 35 (by decide)).trans s2228
    have s2272 := (fh2244 36 (by decide)).trans s2229
    have s2273 := (fh2244 37 (by decide)).trans s2230
    have s2274 := (fh2244 38 (by decide)).trans s2231
    have s2275 := (fh2244 40 (by decide)).trans s2232
    have s2276 := (fh2244 49 (by decide)).trans s2233
    have s2277 := (fh2244 54 (by decide)).trans s2234
    have s2278 := (fh2244 55 (by decide)).trans s2235
    have s2279 := (fh2244 56 (by decide)).trans s2236
    have s2280 := (fh2244 57 (by decide)).trans s2237
    have s2281 := (fh2244 58 (by decide)).trans s2238
    have s2282 := (fh2244 60 (by decide)).trans s2239
    have s2283 := (fh2244 63 (by decide)).trans s2240
    clear G2171 dd2175 pr2242 rf2173 rf2174 rw2172 s2209 s2210 s2211 s2212 s2213 s2214 s2215 s2216 s2217 s2218 s2219 s2220 s2221 s2222 s2223 s2224 s2225 s2226 s2227 s2228 s2229 s2230 s2231 s2232 s2233 s2234 s2235 s2236 s2237 s2238 s2239 s2240 sS2243
    refine gz_s 2 (pc' := 269) (L' := [some (.ref x), none, none, none, none]) (S' := [.int (zi 17), .ref x]) rfl ?_
    refine gs_newr 35 rfl (by decide) rfl sS2248.1 (Nat.le_of_lt (Nat.lt_of_le_of_lt (gJ.cell sS2248.1 t2177 rfl).1 (gJ.cell sS2248.1 t2177 rfl).2.1)) (by omega) (by omega) rfl rfl (by show (17 : Int) ≤ _; omega) (by show _ ≤ (17 : Int); omega) (fun _ _ => gos_i (by decide) (by decide)) (fun ty2284 h2285 c2286 g2287 tc2286 lc2286 nc2286 mc2286 ec2286 dc2286 uc2286 => ?_)
    have gac2286 : h.1 ≤ c2286 := by have h8 := G2246.2.1; have h9 := sS2248.2.1; omega
    have uq2288 := uc2286 uq2170 (Or.inr (gNo.sub (by decide +kernel) pr2241))
    have G2289 : gSg [1, 2, 3, 4, 5, 6, 7, 8, 9, 10, 11, 12, 13, 14, 15, 16, 17, 18, 19, 20, 21, 22, 23, 24, 25, 26, 27, 28, 29, 30, 31, 32, 33, 34, 35, 36, 37, 38, 39, 40, 41, 42, 200] [x] [8999, 10999, 31999] ty h ty2284 h2285 := gSg.tr (gSg.ss G2246 sS2248 (by decide)) g2287 (by decide) (by decide) (fun x hx => by cases hx)
    have rw2290 := gSg.raw g2287 rf2249 (fun w => by cases w)
    have rf2291 := (rw2290.2.2.1.trans kh2244)
    have rf2292 := (rw2290.2.2.2.trans rf2250)
    have dd2293 := gSg.rawd (ci := 12) (ps := [65, 63, 60, 58, 57, 56, 55, 54, 49, 40, 38, 37, 36, 35, 34, 33, 32, 31, 30, 29, 28, 27, 26, 25, 15, 14, 13, 12, 11, 10, 9, 4, 2]) g2287 rf2249 (fun w => by cases w) t2176 (by decide) dd2251
    have t2294 : ty2284 x = 200 := rw2290.1.trans t2176
    have t2295 : ty2284 c3 = 2 := gSg.typ g2287 sS2248.1 t2177 rTk_2
    have t2296 : ty2284 c23 = 3 := gSg.typ g2287 sS2248.1 t2178 rTk_3
    have t2297 : ty2284 c46 = 4 := gSg.typ g2287 sS2248.1 t2179 rTk_4
    have t2298 : ty2284 c72 = 5 := gSg.typ g2287 sS2248.1 t2180 rTk_5
    have t2299 : ty2284 c101 = 6 := gSg.typ g2287 sS2248.1 t2181 rTk_6
    have t2300 : ty2284 c133 = 7 := gSg.typ g2287 sS2248.1 t2182 rTk_7
    have t2301 : ty2284 c171 = 8 := gSg.typ g2287 sS2248.1 t2183 rTk_8
    have t2302 : ty2284 c209 = 9 := gSg.typ g2287 sS2248.1 t2184 rTk_9
    have t2303 : ty2284 c250 = 10 := gSg.typ g2287 sS2248.1 t2185 rTk_10
    have t2304 : ty2284 c294 = 11 := gSg.typ g2287 sS2248.1 t2186 rTk_11
    have t2305 : ty2284 c341 = 12 := gSg.typ g2287 sS2248.1 t2187 rTk_12
    have t2306 : ty2284 c391 = 13 := gSg.typ g2287 sS2248.1 t2188 rTk_13
    have t2307 : ty2284 c447 = 14 := gSg.typ g2287 sS2248.1 t2189 rTk_14
    have t2308 : ty2284 c503 = 15 := gSg.typ g2287 sS2248.1 t2190 rTk_15
    have t2309 : ty2284 c562 = 16 := gSg.typ g2287 sS2248.1 t2191 rTk_16
    have t2310 : ty2284 c624 = 17 := gSg.typ g2287 sS2248.1 t2192 rTk_17
    have t2311 : ty2284 c689 = 18 := gSg.typ g2287 sS2248.1 t2193 rTk_18
    have t2312 : ty2284 c760 = 19 := gSg.typ g2287 sS2248.1 t2194 rTk_19
    have t2313 : ty2284 c831 = 20 := gSg.typ g2287 sS2248.1 t2195 rTk_20
    have t2314 : ty2284 c905 = 21 := gSg.typ g2287 sS2248.1 t2196 rTk_21
    have t2315 : ty2284 c982 = 22 := gSg.typ g2287 sS2248.1 t2197 rTk_22
    have t2316 : ty2284 c1065 = 23 := gSg.typ g2287 sS2248.1 t2198 rTk_23
    have t2317 : ty2284 c1148 = 24 := gSg.typ g2287 sS2248.1 t2199 rTk_24
    have t2318 : ty2284 c1234 = 25 := gSg.typ g2287 sS2248.1 t2200 rTk_25
    have t2319 : ty2284 c1323 = 26 := gSg.typ g2287 sS2248.1 t2201 rTk_26
    have t2320 : ty2284 c1420 = 27 := gSg.typ g2287 sS2248.1 t2202 rTk_27
    have t2321 : ty2284 c1517 = 28 := gSg.typ g2287 sS2248.1 t2203 rTk_28
    have t2322 : ty2284 c1617 = 29 := gSg.typ g2287 sS2248.1 t2204 rTk_29
    have t2323 : ty2284 c1723 = 30 := gSg.typ g2287 sS2248.1 t2205 rTk_30
    have t2324 : ty2284 c1829 = 31 := gSg.typ g2287 sS2248.1 t2206 rTk_31
    have t2325 : ty2284 c1938 = 32 := gSg.typ g2287 sS2248.1 t2207 rTk_32
    have t2326 : ty2284 c2053 = 33 := gSg.typ g2287 sS2248.1 t2208 rTk_33
    have t2327 : ty2284 c2168 = 34 := gSg.typ g2287 sS2248.1 tc2168 rTk_34
    have s2328 := gSg.rawat g2287 rf2249 (fun w => by cases w) t2176 (by decide) s2252
    have s2329 := gSg.rawat g2287 rf2249 (fun w => by cases w) t2176 (by decide) s2253
    have s2330 := gSg.rawat g2287 rf2249 (fun w => by cases w) t2176 (by decide) s2254
    have s2331 := gSg.rawat g2287 rf2249 (fun w => by cases w) t2176 (by decide) s2255
    have s2332 := gSg.rawat g2287 rf2249 (fun w => by cases w) t2176 (by decide) s2256
    have s2333 := gSg.rawat g2287 rf2249 (fun w => by cases w) t2176 (by decide) s2257
    have s2334 := gSg.rawat g2287 rf2249 (fun w => by cases w) t2176 (by decide) s2258
    have s2335 := gSg.rawat g2287 rf2249 (fun w => by cases w) t2176 (by decide) s2259
    have s2336 := gSg.rawat g2287 rf2249 (fun w => by cases w) t2176 (by decide) s2260
    have s2337 := gSg.rawat g2287 rf2249 (fun w => by cases w) t2176 (by decide) s2261
    have s2338 := gSg.rawat g2287 rf2249 (fun w => by cases w) t2176 (by decide) s2262
    have s2339 := gSg.rawat g2287 rf2249 (fun w => by cases w) t2176 (by decide) s2263
    have s2340 := gSg.rawat g2287 rf2249 (fun w => by cases w) t2176 (by decide) s2264
    have s2341 := gSg.rawat g2287 rf2249 (fun w => by cases w) t2176 (by decide) s2265
    have s2342 := gSg.rawat g2287 rf2249 (fun w => by cases w) t2176 (by decide) s2266
    have s2343 := gSg.rawat g2287 rf2249 (fun w => by cases w) t2176 (by decide) s2267
    have s2344 := gSg.rawat g2287 rf2249 (fun w => by cases w) t2176 (by decide) s2268
    have s2345 := gSg.rawat g2287 rf2249 (fun w => by cases w) t2176 (by decide) s2269
    have s2346 := gSg.rawat g2287 rf2249 (fun w => by cases w) t2176 (by decide) s2270
    have s2347 := gSg.rawat g2287 rf2249 (fun w => by cases w) t2176 (by decide) s2271
    have s2348 := gSg.rawat g2287 rf2249 (fun w => by cases w) t2176 (by decide) s2272
    have s2349 := gSg.rawat g2287 rf2249 (fun w => by cases w) t2176 (by decide) s2273
    have s2350 := gSg.rawat g2287 rf2249 (fun w => by cases w) t2176 (by decide) s2274
    have s2351 := gSg.rawat g2287 rf2249 (fun w => by cases w) t2176 (by decide) s2275
    have s2352 := gSg.rawat g2287 rf2249 (fun w => by cases w) t2176 (by decide) s2276
    have s2353 := gSg.rawat g2287 rf2249 (fun w => by cases w) t2176 (by decide) s2277
    have s2354 := gSg.rawat g2287 rf2249 (fun w => by cases w) t2176 (by decide) s2278
    have s2355 := gSg.rawat g2287 rf2249 (fun w => by cases w) t2176 (by decide) s2279
    have s2356 := gSg.rawat g2287 rf2249 (fun w => by cases w) t2176 (by decide) s2280
    have s2357 := gSg.rawat g2287 rf2249 (fun w => by cases w) t2176 (by decide) s2281
    have s2358 := gSg.rawat g2287 rf2249 (fun w => by cases w) t2176 (by decide) s2282
    have s2359 := gSg.rawat g2287 rf2249 (fun w => by cases w) t2176 (by decide) s2283
    have s2360 := gSg.rawat g2287 rf2249 (fun w => by cases w) t2176 (by decide) eh2244
    have pr2361 : gNo [1, 36, 37, 38, 39, 40, 41, 42] ty2284 := gNo.gr g2287 (by decide +kernel) (gNo.sub (by decide +kernel) pr2241)
    have pr2362 := gOyB.gr g2287 sS2248.1 rfl (by decide) (by decide) pr2247
    have sS2363 : gSs rT 1027 ty2284 [8999, 10999, 31999] h2285 h2285 := gSs.rf g2287.1
    clear G2246 dd2251 pr2241 pr2247 rf2249 rf2250 s2252 s2253 s2254 s2255 s2256 s2257 s2258 s2259 s2260 s2261 s2262 s2263 s2264 s2265 s2266 s2267 s2268 s2269 s2270 s2271 s2272 s2273 s2274 s2275 s2276 s2277 s2278 s2279 s2280 s2281 s2282 s2283 sS2248 t2176 t2177 t2178 t2179 t2180 t2181 t2182 t2183 t2184 t2185 t2186 t2187 t2188 t2189 t2190 t2191 t2192 t2193 t2194 t2195 t2196 t2197 t2198 t2199 t2200 t2201 t2202 t2203 t2204 t2205 t2206 t2207 t2208 uq2170
    refine gs_rput rfl (by decide) rfl sS2363.1 t2294 nx rw2290.2.1 rf2291 rfl (Or.inr rfl) (fun h2364 g2365 nh2364 mh2364 kh2364 zh2364 eh2364 fh2364 => ?_)
    have G2366 : gSg [1, 2, 3, 4, 5, 6, 7, 8, 9, 10, 11, 12, 13, 14, 15, 16, 17, 18, 19, 20, 21, 22, 23, 24, 25, 26, 27, 28, 29, 30, 31, 32, 33, 34, 35, 36, 37, 38, 39, 40, 41, 42, 200] [x] [8999, 10999, 31999] ty h ty2284 h2364 := gSg.tr (gSg.ss G2289 sS2363 (by decide)) g2365 (by decide) (by decide) (fun x hx => Or.inr hx)
    have pr2367 := gOyB.gr g2365 sS2363.1 rfl (by decide) (by decide) pr2362
    have sS2368 : gSs rT 1027 ty2284 [8999, 10999, 31999] h2364 h2364 := gSs.rf g2365.1
    have rf2369 := Nat.lt_of_lt_of_eq rw2290.2.1 nh2364.symm
    have rf2370 := zh2364.trans rf2292
    have dd2371 : ∀ k, ¬ k ∈ ([66, 65, 63, 60, 58, 57, 56, 55, 54, 49, 40, 38, 37, 36, 35, 34, 33, 32, 31, 30, 29, 28, 27, 26, 25, 15, 14, 13, 12, 11, 10, 9, 4, 2] : List Nat) → h2364.2.2.2.2 x k = defaultValue (gGG.2.1 12 k) := raw_dp fh2364 dd2293
    have s2372 := (fh2364 2 (by decide)).trans s2328
    have s2373 := (fh2364 4 (by decide)).trans s2329
    have s2374 := (fh2364 9 (by decide)).trans s2330
    have s2375 := (fh2364 10 (by decide)).trans s2331
    have s2376 := (fh2364 11 (by decide)).trans s2332
    have s2377 := (fh2364 12 (by decide)).trans s2333
    have s2378 := (fh2364 13 (by decide)).trans s2334
    have s2379 := (fh2364 14 (by decide)).trans s2335
    have s2380 := (fh2364 15 (by decide)).trans s2336
    have s2381 := (fh2364 25 (by decide)).trans s2337
    have s2382 := (fh2364 26 (by decide)).trans s2338
    have s2383 := (fh2364 27 (by decide)).trans s2339
    have s2384 := (fh2364 28 (by decide)).trans s2340
    have s2385 := (fh2364 29 (by decide)).trans s2341
    have s2386 := (fh2364 30 (by decide)).trans s2342
    have s2387 := (fh2364 31 (by decide)).trans s2343
    have s2388 := (fh2364 32 (by decide)).trans s2344
    have s2389 := (fh2364 33 (by decide)).trans s2345
    have s2390 := (fh2364 34 (by decide)).trans s2346
    have s2391 := (fh2364 35 (by decide)).trans s2347
    have s2392 := (fh2364 36 (by decide)).trans s2348
    have s2393 := (fh2364 37 (by decide)).trans s2349
    have s2394 := (fh2364 38 (by decide)).trans s2350
    have s2395 := (fh2364 40 (by decide)).trans s2351
    have s2396 := (fh2364 49 (by decide)).trans s2352
    have s2397 := (fh2364 54 (by decide)).trans s2353
    have s2398 := (fh2364 55 (by decide)).trans s2354
    have s2399 := (fh2364 56 (by decide)).trans s2355
    have s2400 := (fh2364 57 (by decide)).trans s2356
    have s2401 := (fh2364 58 (by decide)).trans s2357
    have s2402 := (fh2364 60 (by decide)).trans s2358
    have s2403 := (fh2364 63 (by decide)).trans s2359
    have s2404 := (fh2364 65 (by decide)).trans s2360
    clear G2289 dd2293 pr2362 rf2291 rf2292 rw2290 s2328 s2329 s2330 s2331 s2332 s2333 s2334 s2335 s2336 s2337 s2338 s2339 s2340 s2341 s2342 s2343 s2344 s2345 s2346 s2347 s2348 s2349 s2350 s2351 s2352 s2353 s2354 s2355 s2356 s2357 s2358 s2359 s2360 sS2363
    have lp2405 := cmlp2405 d hJ x nx c3 c23 c46 c72 c101 c133 c171 c209 c250 c294 c341 c391 c447 c503 c562 c624 c689 c760 c831 c905 c982 c1065 c1148 c1234 c1323 c1420 c1517 c1617 c1723 c1829 c1938 c2053 c2168 c2286
    have G3607 : gSg [1, 2, 3, 4, 5, 6, 7, 8, 9, 10, 11, 12, 13, 14, 15, 16, 17, 18, 19, 20, 21, 22, 23, 24, 25, 26, 27, 28, 29, 30, 31, 32, 33, 34, 35, 36, 37, 38, 39, 40, 41, 42, 200] [x] [8999, 10999, 31999] ty h ty2284 h2364 := gSg.ss G2366 sS2368 (by decide)
    exact gz_wk (lp2405 _ ty2284 h2364  (Nat.lt_succ_self _) G3607 uq2288 t2294 t2295 t2296 t2297 t2298 t2299 t2300 t2301 t2302 t2303 t2304 t2305 t2306 t2307 t2308 t2309 t2310 t2311 t2312 t2313 t2314 t2315 t2316 t2317 t2318 t2319 t2320 t2321 t2322 t2323 t2324 t2325 t2326 t2327 tc2286 (by omega) (by omega) s2372 s2373 s2374 s2375 s2376 s2377 s2378 s2379 s2380 s2381 s2382 s2383 s2384 s2385 s2386 s2387 s2388 s2389 s2390 s2391 s2392 s2393 s2394 s2395 s2396 s2397 s2398 s2399 s2400 s2401 s2402 s2403 s2404 eh2364 pr2361 pr2367 rf2369 kh2364 rf2370 dd2371) (gLw.s (gLw.n (gLw.n (gLw.n (gLw.n gLw.z)))))
set_option maxRecDepth 20000 in
set_option maxHeartbeats 4000000 in
theorem cmlp1718 (d : Nat) {ty : Nat → Nat} {h : gH} (hJ : gJ rT 1027 ty h) (x : Nat) (nx : 1027 ≤ x) (c3 c23 c46 c72 c101 c133 c171 c209 c250 c294 c341 c391 c447 c503 c562 c624 c689 c760 c831 c905 c982 c1065 c1148 c1234 c1323 c1420 c1517 c1617 : Nat) : ∀ (fu : Nat) (ty1720 : Nat → Nat) (h1719 : gH), ((1 : Int)).toNat < fu → gSg [1, 2, 3, 4, 5, 6, 7, 8, 9, 10, 11, 12, 13, 14, 15, 16, 17, 18, 19, 20, 21, 22, 23, 24, 25, 26, 27, 28, 29, 30, 31, 32, 33, 34, 35, 36, 37, 38, 39, 40, 41, 42, 200] [x] [8999, 10999, 31999] ty h ty1720 h1719 → gUq ty1720 → ty1720 x = 200 → ty1720 c3 = 2 → ty1720 c23 = 3 → ty1720 c46 = 4 → ty1720 c72 = 5 → ty1720 c101 = 6 → ty1720 c133 = 7 → ty1720 c171 = 8 → ty1720 c209 = 9 → ty1720 c250 = 10 → ty1720 c294 = 11 → ty1720 c341 = 12 → ty1720 c391 = 13 → ty1720 c447 = 14 → ty1720 c503 = 15 → ty1720 c562 = 16 → ty1720 c624 = 17 → ty1720 c689 = 18 → ty1720 c760 = 19 → ty1720 c831 = 20 → ty1720 c905 = 21 → ty1720 c982 = 22 → ty1720 c1065 = 23 → ty1720 c1148 = 24 → ty1720 c1234 = 25 → ty1720 c1323 = 26 → ty1720 c1420 = 27 → ty1720 c1517 = 28 → ty1720 c1617 = 29 → ((h1719.1 : Int) = h.1 + 28) → ((h1719.2.1 : Int) = h.2.1 + 24325) → h1719.2.2.2.2 x 2 = .ref c3 → h1719.2.2.2.2 x 4 = .ref c23 → h1719.2.2.2.2 x 9 = .ref c46 → h1719.2.2.2.2 x 10 = .ref c72 → h1719.2.2.2.2 x 11 = .ref c101 → h1719.2.2.2.2 x 12 = .ref c133 → h1719.2.2.2.2 x 13 = .ref c171 → h1719.2.2.2.2 x 14 = .ref c209 → h1719.2.2.2.2 x 15 = .ref c250 → h1719.2.2.2.2 x 25 = .ref c294 → h1719.2.2.2.2 x 26 = .ref c341 → h1719.2.2.2.2 x 27 = .ref c391 → h1719.2.2.2.2 x 28 = .ref c447 → h1719.2.2.2.2 x 29 = .ref c503 → h1719.2.2.2.2 x 30 = .ref c562 → h1719.2.2.2.2 x 31 = .ref c624 → h1719.2.2.2.2 x 32 = .ref c689 → h1719.2.2.2.2 x 33 = .ref c760 → h1719.2.2.2.2 x 34 = .ref c831 → h1719.2.2.2.2 x 35 = .ref c905 → h1719.2.2.2.2 x 36 = .ref c982 → h1719.2.2.2.2 x 37 = .ref c1065 → h1719.2.2.2.2 x 38 = .ref c1148 → h1719.2.2.2.2 x 40 = .ref c1234 → h1719.2.2.2.2 x 49 = .ref c1323 → h1719.2.2.2.2 x 54 = .ref c1420 → h1719.2.2.2.2 x 55 = .ref c1517 → h1719.2.2.2.2 x 56 = .ref c1617 → gNo [1, 30, 31, 32, 33, 34, 35, 36, 37, 38, 39, 40, 41, 42] ty1720 → gOyB ty1720 26 0 1024 h1719 → x < h1719.1 → h1719.2.2.1 x = some (.inr 12) → h1719.2.2.2.1 x = 0 → (∀ k, ¬ k ∈ ([56, 55, 54, 49, 40, 38, 37, 36, 35, 34, 33, 32, 31, 30, 29, 28, 27, 26, 25, 15, 14, 13, 12, 11, 10, 9, 4, 2] : List Nat) → h1719.2.2.2.2 x k = defaultValue (gGG.2.1 12 k)) → gz gPP gGG gcn (d + 1) gt130 225 [some (.ref x), none, none, none, none] [] h1719 (fun q _ => ∃ ty9 : Nat → Nat, gSg [1, 2, 3, 4, 5, 6, 7, 8, 9, 10, 11, 12, 13, 14, 15, 16, 17, 18, 19, 20, 21, 22, 23, 24, 25, 26, 27, 28, 29, 30, 31, 32, 33, 34, 35, 36, 37, 38, 39, 40, 41, 42, 200] [x] [8999, 10999, 31999] ty h ty9 q.2.2 ∧ ∃ ip n1 cw ch iv1 : Int, ty9 x = 1 ∧ gfin gt130 q.1 q.2.1 = some none ∧ q.2.2.2.2.2.2 x 16 = .int (zi ip) ∧ 0 ≤ ip ∧ ip ≤ 1 ∧ q.2.2.2.2.2.2 x 53 = .int (zi n1) ∧ 0 ≤ n1 ∧ n1 ≤ 10 ∧ q.2.2.2.2.2.2 x 50 = .int (zi cw) ∧ 0 ≤ cw ∧ cw ≤ 32 ∧ q.2.2.2.2.2.2 x 51 = .int (zi ch) ∧ 0 ≤ ch ∧ ch ≤ 32 ∧ q.2.2.2.2.2.2 x 52 = .int (zi iv1) ∧ 0 ≤ iv1 ∧ iv1 ≤ 100 ∧ (ip = 0) ∧ (n1 = 0) ∧ (cw = 0) ∧ (ch = 0) ∧ (iv1 = 0) ∧ ((q.2.2.1 : Int) = h.1 + 41) ∧ ((q.2.2.2.1 : Int) = h.2.1 + 88652) ∧ (gTs ty9 0 q.2.2) ∧ (gOyB ty9 26 0 1024 q.2.2) ∧ gUq ty9) := by
  intro fu
  induction fu with
  | zero => intro ty1720 h1719  hm; exact absurd hm (Nat.not_lt_zero _)
  | succ fu ihlp1718 =>
    intro ty1720 h1719  lp1718m lp1718G lp1718u lp1718c0 lp1718c1 lp1718c2 lp1718c3 lp1718c4 lp1718c5 lp1718c6 lp1718c7 lp1718c8 lp1718c9 lp1718c10 lp1718c11 lp1718c12 lp1718c13 lp1718c14 lp1718c15 lp1718c16 lp1718c17 lp1718c18 lp1718c19 lp1718c20 lp1718c21 lp1718c22 lp1718c23 lp1718c24 lp1718c25 lp1718c26 lp1718c27 lp1718c28 lp1718f0 lp1718f1 lp1718k0 lp1718k1 lp1718k2 lp1718k3 lp1718k4 lp1718k5 lp1718k6 lp1718k7 lp1718k8 lp1718k9 lp1718k10 lp1718k11 lp1718k12 lp1718k13 lp1718k14 lp1718k15 lp1718k16 lp1718k17 lp1718k18 lp1718k19 lp1718k20 lp1718k21 lp1718k22 lp1718k23 lp1718k24 lp1718k25 lp1718k26 lp1718k27 lp1718k28 lp1718k29 lp1718w0 lp1718w1 lp1718w2 lp1718w3
    have sh1719 : gSs rT 1027 ty1720 [8999, 10999, 31999] h1719 h1719 := gSs.rf lp1718G.1
    refine gz_s 2 (pc' := 228) (L' := [some (.ref x), none, none, none, none]) (S' := [.int (zi 10), .ref x]) rfl ?_
    refine gs_newr 30 rfl (by decide) rfl sh1719.1 (Nat.le_of_lt (Nat.lt_of_le_of_lt (gJ.cell sh1719.1 lp1718c1 rfl).1 (gJ.cell sh1719.1 lp1718c1 rfl).2.1)) (by omega) (by omega) rfl rfl (by show (10 : Int) ≤ _; omega) (by show _ ≤ (10 : Int); omega) (fun _ _ => gos_i (by decide) (by decide)) (fun ty1721 h1722 c1723 g1724 tc1723 lc1723 nc1723 mc1723 ec1723 dc1723 uc1723 => ?_)
    have gac1723 : h.1 ≤ c1723 := by have h8 := lp1718G.2.1; have h9 := sh1719.2.1; omega
    have uq1725 := uc1723 lp1718u (Or.inr (gNo.sub (by decide +kernel) lp1718k28))
    have G1726 : gSg [1, 2, 3, 4, 5, 6, 7, 8, 9, 10, 11, 12, 13, 14, 15, 16, 17, 18, 19, 20, 21, 22, 23, 24, 25, 26, 27, 28, 29, 30, 31, 32, 33, 34, 35, 36, 37, 38, 39, 40, 41, 42, 200] [x] [8999, 10999, 31999] ty h ty1721 h1722 := gSg.tr (gSg.ss lp1718G sh1719 (by decide)) g1724 (by decide) (by decide) (fun x hx => by cases hx)
    have rw1727 := gSg.raw g1724 lp1718w0 (fun w => by cases w)
    have rf1728 := (rw1727.2.2.1.trans lp1718w1)
    have rf1729 := (rw1727.2.2.2.trans lp1718w2)
    have dd1730 := gSg.rawd (ci := 12) (ps := [56, 55, 54, 49, 40, 38, 37, 36, 35, 34, 33, 32, 31, 30, 29, 28, 27, 26, 25, 15, 14, 13, 12, 11, 10, 9, 4, 2]) g1724 lp1718w0 (fun w => by cases w) lp1718c0 (by decide) lp1718w3
    have t1731 : ty1721 x = 200 := rw1727.1.trans lp1718c0
    have t1732 : ty1721 c3 = 2 := gSg.typ g1724 sh1719.1 lp1718c1 rTk_2
    have t1733 : ty1721 c23 = 3 := gSg.typ g1724 sh1719.1 lp1718c2 rTk_3
    have t1734 : ty1721 c46 = 4 := gSg.typ g1724 sh1719.1 lp1718c3 rTk_4
    have t1735 : ty1721 c72 = 5 := gSg.typ g1724 sh1719.1 lp1718c4 rTk_5
    have t1736 : ty1721 c101 = 6 := gSg.typ g1724 sh1719.1 lp1718c5 rTk_6
    have t1737 : ty1721 c133 = 7 := gSg.typ g1724 sh1719.1 lp1718c6 rTk_7
    have t1738 : ty1721 c171 = 8 := gSg.typ g1724 sh1719.1 lp1718c7 rTk_8
    have t1739 : ty1721 c209 = 9 := gSg.typ g1724 sh1719.1 lp1718c8 rTk_9
    have t1740 : ty1721 c250 = 10 := gSg.typ g1724 sh1719.1 lp1718c9 rTk_10
    have t1741 : ty1721 c294 = 11 := gSg.typ g1724 sh1719.1 lp1718c10 rTk_11
    have t1742 : ty1721 c341 = 12 := gSg.typ g1724 sh1719.1 lp1718c11 rTk_12
    have t1743 : ty1721 c391 = 13 := gSg.typ g1724 sh1719.1 lp1718c12 rTk_13
    have t1744 : ty1721 c447 = 14 := gSg.typ g1724 sh1719.1 lp1718c13 rTk_14
    have t1745 : ty1721 c503 = 15 := gSg.typ g1724 sh1719.1 lp1718c14 rTk_15
    have t1746 : ty1721 c562 = 16 := gSg.typ g1724 sh1719.1 lp1718c15 rTk_16
    have t1747 : ty1721 c624 = 17 := gSg.typ g1724 sh1719.1 lp1718c16 rTk_17
    have t1748 : ty1721 c689 = 18 := gSg.typ g1724 sh1719.1 lp1718c17 rTk_18
    have t1749 : ty1721 c760 = 19 := gSg.typ g1724 sh1719.1 lp1718c18 rTk_19
    have t1750 : ty1721 c831 = 20 := gSg.typ g1724 sh1719.1 lp1718c19 rTk_20
    have t1751 : ty1721 c905 = 21 := gSg.typ g1724 sh1719.1 lp1718c20 rTk_21
    have t1752 : ty1721 c982 = 22 := gSg.typ g1724 sh1719.1 lp1718c21 rTk_22
    have t1753 : ty1721 c1065 = 23 := gSg.typ g1724 sh1719.1 lp1718c22 rTk_23
    have t1754 : ty1721 c1148 = 24 := gSg.typ g1724 sh1719.1 lp1718c23 rTk_24
    have t1755 : ty1721 c1234 = 25 := gSg.typ g1724 sh1719.1 lp1718c24 rTk_25
    have t1756 : ty1721 c1323 = 26 := gSg.typ g1724 sh1719.1 lp1718c25 rTk_26
    have t1757 : ty1721 c1420 = 27 := gSg.typ g1724 sh1719.1 lp1718c26 rTk_27
    have t1758 : ty1721 c1517 = 28 := gSg.typ g1724 sh1719.1 lp1718c27 rTk_28
    have t1759 : ty1721 c1617 = 29 := gSg.typ g1724 sh1719.1 lp1718c28 rTk_29
    have s1760 := gSg.rawat g1724 lp1718w0 (fun w => by cases w) lp1718c0 (by decide) lp1718k0
    have s1761 := gSg.rawat g1724 lp1718w0 (fun w => by cases w) lp1718c0 (by decide) lp1718k1
    have s1762 := gSg.rawat g1724 lp1718w0 (fun w => by cases w) lp1718c0 (by decide) lp1718k2
    have s1763 := gSg.rawat g1724 lp1718w0 (fun w => by cases w) lp1718c0 (by decide) lp1718k3
    have s1764 := gSg.rawat g1724 lp1718w0 (fun w => by cases w) lp1718c0 (by decide) lp1718k4
    have s1765 := gSg.rawat g1724 lp1718w0 (fun w => by cases w) lp1718c0 (by decide) lp1718k5
    have s1766 := gSg.rawat g1724 lp1718w0 (fun w => by cases w) lp1718c0 (by decide) lp1718k6
    have s1767 := gSg.rawat g1724 lp1718w0 (fun w => by cases w) lp1718c0 (by decide) lp1718k7
    have s1768 := gSg.rawat g1724 lp1718w0 (fun w => by cases w) lp1718c0 (by decide) lp1718k8
    have s1769 := gSg.rawat g1724 lp1718w0 (fun w => by cases w) lp1718c0 (by decide) lp1718k9
    have s1770 := gSg.rawat g1724 lp1718w0 (fun w => by cases w) lp1718c0 (by decide) lp1718k10
    have s1771 := gSg.rawat g1724 lp1718w0 (fun w => by cases w) lp1718c0 (by decide) lp1718k11
    have s1772 := gSg.rawat g1724 lp1718w0 (fun w => by cases w) lp1718c0 (by decide) lp1718k12
    have s1773 := gSg.rawat g1724 lp1718w0 (fun w => by cases w) lp1718c0 (by decide) lp1718k13
    have s1774 := gSg.rawat g1724 lp1718w0 (fun w => by cases w) lp1718c0 (by decide) lp1718k14
    have s1775 := gSg.rawat g1724 lp1718w0 (fun w => by cases w) lp1718c0 (by decide) lp1718k15
    have s1776 := gSg.rawat g1724 lp1718w0 (fun w => by cases w) lp1718c0 (by decide) lp1718k16
    have s1777 := gSg.rawat g1724 lp1718w0 (fun w => by cases w) lp1718c0 (by decide) lp1718k17
    have s1778 := gSg.rawat g1724 lp1718w0 (fun w => by cases w) lp1718c0 (by decide) lp1718k18
    have s1779 := gSg.rawat g1724 lp1718w0 (fun w => by cases w) lp1718c0 (by decide) lp1718k19
    have s1780 := gSg.rawat g1724 lp1718w0 (fun w => by cases w) lp1718c0 (by decide) lp1718k20
    have s1781 := gSg.rawat g1724 lp1718w0 (fun w => by cases w) lp1718c0 (by decide) lp1718k21
    have s1782 := gSg.rawat g1724 lp1718w0 (fun w => by cases w) lp1718c0 (by decide) lp1718k22
    have s1783 := gSg.rawat g1724 lp1718w0 (fun w => by cases w) lp1718c0 (by decide) lp1718k23
    have s1784 := gSg.rawat g1724 lp1718w0 (fun w => by cases w) lp1718c0 (by decide) lp1718k24
    have s1785 := gSg.rawat g1724 lp1718w0 (fun w => by cases w) lp1718c0 (by decide) lp1718k25
    have s1786 := gSg.rawat g1724 lp1718w0 (fun w => by cases w) lp1718c0 (by decide) lp1718k26
    have s1787 := gSg.rawat g1724 lp1718w0 (fun w => by cases w) lp1718c0 (by decide) lp1718k27
    have pr1788 : gNo [1, 31, 32, 33, 34, 35, 36, 37, 38, 39, 40, 41, 42] ty1721 := gNo.gr g1724 (by decide +kernel) (gNo.sub (by decide +kernel) lp1718k28)
    have pr1789 := gOyB.gr g1724 sh1719.1 rfl (by decide) (by decide) lp1718k29
    have sS1790 : gSs rT 1027 ty1721 [8999, 10999, 31999] h1722 h1722 := gSs.rf g1724.1
    refine gs_rput rfl (by decide) rfl sS1790.1 t1731 nx rw1727.2.1 rf1728 rfl (Or.inr rfl) (fun h1791 g1792 nh1791 mh1791 kh1791 zh1791 eh1791 fh1791 => ?_)
    have G1793 : gSg [1, 2, 3, 4, 5, 6, 7, 8, 9, 10, 11, 12, 13, 14, 15, 16, 17, 18, 19, 20, 21, 22, 23, 24, 25, 26, 27, 28, 29, 30, 31, 32, 33, 34, 35, 36, 37, 38, 39, 40, 41, 42, 200] [x] [8999, 10999, 31999] ty h ty1721 h1791 := gSg.tr (gSg.ss G1726 sS1790 (by decide)) g1792 (by decide) (by decide) (fun x hx => Or.inr hx)
    have pr1794 := gOyB.gr g1792 sS1790.1 rfl (by decide) (by decide) pr1789
    have sS1795 : gSs rT 1027 ty1721 [8999, 10999, 31999] h1791 h1791 := gSs.rf g1792.1
    have rf1796 := Nat.lt_of_lt_of_eq rw1727.2.1 nh1791.symm
    have rf1797 := zh1791.trans rf1729
    have dd1798 : ∀ k, ¬ k ∈ ([57, 56, 55, 54, 49, 40, 38, 37, 36, 35, 34, 33, 32, 31, 30, 29, 28, 27, 26, 25, 15, 14, 13, 12, 11, 10, 9, 4, 2] : List Nat) → h1791.2.2.2.2 x k = defaultValue (gGG.2.1 12 k) := raw_dp fh1791 dd1730
    have s1799 := (fh1791 2 (by decide)).trans s1760
    have s1800 := (fh1791 4 (by decide)).trans s1761
    have s1801 := (fh1791 9 (by decide)).trans s1762
    have s1802 := (fh1791 10 (by decide)).trans s1763
    have s1803 := (fh1791 11 (by decide)).trans s1764
    have s1804 := (fh1791 12 (by decide)).trans s1765
    have s1805 := (fh1791 13 (by decide)).trans s1766
    have s1806 := (fh1791 14 (by decide)).trans s1767
    have s1807 := (fh1791 15 (by decide)).trans s1768
    have s1808 := (fh1791 25 (by decide)).trans s1769
    have s1809 := (fh1791 26 (by decide)).trans s1770
    have s1810 := (fh1791 27 (by decide)).trans s1771
    have s1811 := (fh1791 28 (by decide)).trans s1772
    have s1812 := (fh1791 29 (by decide)).trans s1773
    have s1813 := (fh1791 30 (by decide)).trans s1774
    have s1814 := (fh1791 31 (by decide)).trans s1775
    have s1815 := (fh1791 32 (by decide)).trans s1776
    have s1816 := (fh1791 33 (by decide)).trans s1777
    have s1817 := (fh1791 34 (by decide)).trans s1778
    have s1818 := (fh1791 35 (by decide)).trans s1779
    have s1819 := (fh1791 36 (by decide)).trans s1780
    have s1820 := (fh1791 37 (by decide)).trans s1781
    have s1821 := (fh1791 38 (by decide)).trans s1782
    have s1822 := (fh1791 40 (by decide)).trans s1783
    have s1823 := (fh1791 49 (by decide)).trans s1784
    have s1824 := (fh1791 54 (by decide)).trans s1785
    have s1825 := (fh1791 55 (by decide)).trans s1786
    have s1826 := (fh1791 56 (by decide)).trans s1787
    clear G1726 dd1730 pr1789 rf1728 rf1729 rw1727 s1760 s1761 s1762 s1763 s1764 s1765 s1766 s1767 s1768 s1769 s1770 s1771 s1772 s1773 s1774 s1775 s1776 s1777 s1778 s1779 s1780 s1781 s1782 s1783 s1784 s1785 s1786 s1787 sS1790
    refine gz_s 2 (pc' := 236) (L' := [some (.ref x), none, none, none, none]) (S' := [.int (zi 64), .ref x]) rfl ?_
    refine gs_newr 31 rfl (by decide) rfl sS1795.1 (Nat.le_of_lt (Nat.lt_of_le_of_lt (gJ.cell sS1795.1 t1732 rfl).1 (gJ.cell sS1795.1 t1732 rfl).2.1)) (by omega) (by omega) rfl rfl (by show (64 : Int) ≤ _; omega) (by show _ ≤ (64 : Int); omega) (fun _ _ => gos_i (by decide) (by decide)) (fun ty1827 h1828 c1829 g1830 tc1829 lc1829 nc1829 mc1829 ec1829 dc1829 uc1829 => ?_)
    have gac1829 : h.1 ≤ c1829 := by have h8 := G1793.2.1; have h9 := sS1795.2.1; omega
    have uq1831 := uc1829 uq1725 (Or.inr (gNo.sub (by decide +kernel) pr1788))
    have G1832 : gSg [1, 2, 3, 4, 5, 6, 7, 8, 9, 10, 11, 12, 13, 14, 15, 16, 17, 18, 19, 20, 21, 22, 23, 24, 25, 26, 27, 28, 29, 30, 31, 32, 33, 34, 35, 36, 37, 38, 39, 40, 41, 42, 200] [x] [8999, 10999, 31999] ty h ty1827 h1828 := gSg.tr (gSg.ss G1793 sS1795 (by decide)) g1830 (by decide) (by decide) (fun x hx => by cases hx)
    have rw1833 := gSg.raw g1830 rf1796 (fun w => by cases w)
    have rf1834 := (rw1833.2.2.1.trans kh1791)
    have rf1835 := (rw1833.2.2.2.trans rf1797)
    have dd1836 := gSg.rawd (ci := 12) (ps := [57, 56, 55, 54, 49, 40, 38, 37, 36, 35, 34, 33, 32, 31, 30, 29, 28, 27, 26, 25, 15, 14, 13, 12, 11, 10, 9, 4, 2]) g1830 rf1796 (fun w => by cases w) t1731 (by decide) dd1798
    have t1837 : ty1827 x = 200 := rw1833.1.trans t1731
    have t1838 : ty1827 c3 = 2 := gSg.typ g1830 sS1795.1 t1732 rTk_2
    have t1839 : ty1827 c23 = 3 := gSg.typ g1830 sS1795.1 t1733 rTk_3
    have t1840 : ty1827 c46 = 4 := gSg.typ g1830 sS1795.1 t1734 rTk_4
    have t1841 : ty1827 c72 = 5 := gSg.typ g1830 sS1795.1 t1735 rTk_5
    have t1842 : ty1827 c101 = 6 := gSg.typ g1830 sS1795.1 t1736 rTk_6
    have t1843 : ty1827 c133 = 7 := gSg.typ g1830 sS1795.1 t1737 rTk_7
    have t1844 : ty1827 c171 = 8 := gSg.typ g1830 sS1795.1 t1738 rTk_8
    have t1845 : ty1827 c209 = 9 := gSg.typ g1830 sS1795.1 t1739 rTk_9
    have t1846 : ty1827 c250 = 10 := gSg.typ g1830 sS1795.1 t1740 rTk_10
    have t1847 : ty1827 c294 = 11 := gSg.typ g1830 sS1795.1 t1741 rTk_11
    have t1848 : ty1827 c341 = 12 := gSg.typ g1830 sS1795.1 t1742 rTk_12
    have t1849 : ty1827 c391 = 13 := gSg.typ g1830 sS1795.1 t1743 rTk_13
    have t1850 : ty1827 c447 = 14 := gSg.typ g1830 sS1795.1 t1744 rTk_14
    have t1851 : ty1827 c503 = 15 := gSg.typ g1830 sS1795.1 t1745 rTk_15
    have t1852 : ty1827 c562 = 16 := gSg.typ g1830 sS1795.1 t1746 rTk_16
    have t1853 : ty1827 c624 = 17 := gSg.typ g1830 sS1795.1 t1747 rTk_17
    have t1854 : ty1827 c689 = 18 := gSg.typ g1830 sS1795.1 t1748 rTk_18
    have t1855 : ty1827 c760 = 19 := gSg.typ g1830 sS1795.1 t1749 rTk_19
    have t1856 : ty1827 c831 = 20 := gSg.typ g1830 sS1795.1 t1750 rTk_20
    have t1857 : ty1827 c905 = 21 := gSg.typ g1830 sS1795.1 t1751 rTk_21
    have t1858 : ty1827 c982 = 22 := gSg.typ g1830 sS1795.1 t1752 rTk_22
    have t1859 : ty1827 c1065 = 23 := gSg.typ g1830 sS1795.1 t1753 rTk_23
    have t1860 : ty1827 c1148 = 24 := gSg.typ g1830 sS1795.1 t1754 rTk_24
    have t1861 : ty1827 c1234 = 25 := gSg.typ g1830 sS1795.1 t1755 rTk_25
    have t1862 : ty1827 c1323 = 26 := gSg.typ g1830 sS1795.1 t1756 rTk_26
    have t1863 : ty1827 c1420 = 27 := gSg.typ g1830 sS1795.1 t1757 rTk_27
    have t1864 : ty1827 c1517 = 28 := gSg.typ g1830 sS1795.1 t1758 rTk_28
    have t1865 : ty1827 c1617 = 29 := gSg.typ g1830 sS1795.1 t1759 rTk_29
    have t1866 : ty1827 c1723 = 30 := gSg.typ g1830 sS1795.1 tc1723 rTk_30
    have s1867 := gSg.rawat g1830 rf1796 (fun w => by cases w) t1731 (by decide) s1799
    have s1868 := gSg.rawat g1830 rf1796 (fun w => by cases w) t1731 (by decide) s1800
    have s1869 := gSg.rawat g1830 rf1796 (fun w => by cases w) t1731 (by decide) s1801
    have s1870 := gSg.rawat g1830 rf1796 (fun w => by cases w) t1731 (by decide) s1802
    have s1871 := gSg.rawat g1830 rf1796 (fun w => by cases w) t1731 (by decide) s1803
    have s1872 := gSg.rawat g1830 rf1796 (fun w => by cases w) t1731 (by decide) s1804
    have s1873 := gSg.rawat g1830 rf1796 (fun w => by cases w) t1731 (by decide) s1805
    have s1874 := gSg.rawat g1830 rf1796 (fun w => by cases w) t1731 (by decide) s1806
    have s1875 := gSg.rawat g1830 rf1796 (fun w => by cases w) t1731 (by decide) s1807
    have s1876 := gSg.rawat g1830 rf1796 (fun w => by cases w) t1731 (by decide) s1808
    have s1877 := gSg.rawat g1830 rf1796 (fun w => by cases w) t1731 (by decide) s1809
    have s1878 := gSg.rawat g1830 rf1796 (fun w => by cases w) t1731 (by decide) s1810
    have s1879 := gSg.rawat g1830 rf1796 (fun w => by cases w) t1731 (by decide) s1811
    have s1880 := gSg.rawat g1830 rf1796 (fun w => by cases w) t1731 (by decide) s1812
    have s1881 := gSg.rawat g1830 rf1796 (fun w => by cases w) t1731 (by decide) s1813
    have s1882 := gSg.rawat g1830 rf1796 (fun w => by cases w) t1731 (by decide) s1814
    have s1883 := gSg.rawat g1830 rf1796 (fun w => by cases w) t1731 (by decide) s1815
    have s1884 := gSg.rawat g1830 rf1796 (fun w => by cases w) t1731 (by decide) s1816
    have s1885 := gSg.rawat g1830 rf1796 (fun w => by cases w) t1731 (by decide) s1817
    have s1886 := gSg.rawat g1830 rf1796 (fun w => by cases w) t1731 (by decide) s1818
    have s1887 := gSg.rawat g1830 rf1796 (fun w => by cases w) t1731 (by decide) s1819
    have s1888 := gSg.rawat g1830 rf1796 (fun w => by cases w) t1731 (by decide) s1820
    have s1889 := gSg.rawat g1830 rf1796 (fun w => by cases w) t1731 (by decide) s1821
    have s1890 := gSg.rawat g1830 rf1796 (fun w => by cases w) t1731 (by decide) s1822
    have s1891 := gSg.rawat g1830 rf1796 (fun w => by cases w) t1731 (by decide) s1823
    have s1892 := gSg.rawat g1830 rf1796 (fun w => by cases w) t1731 (by decide) s1824
    have s1893 := gSg.rawat g1830 rf1796 (fun w => by cases w) t1731 (by decide) s1825
    have s1894 := gSg.rawat g1830 rf1796 (fun w => by cases w) t1731 (by decide) s1826
    have s1895 := gSg.rawat g1830 rf1796 (fun w => by cases w) t1731 (by decide) eh1791
    have pr1896 : gNo [1, 32, 33, 34, 35, 36, 37, 38, 39, 40, 41, 42] ty1827 := gNo.gr g1830 (by decide +kernel) (gNo.sub (by decide +kernel) pr1788)
    have pr1897 := gOyB.gr g1830 sS1795.1 rfl (by decide) (by decide) pr1794
    have sS1898 : gSs rT 1027 ty1827 [8999, 10999, 31999] h1828 h1828 := gSs.rf g1830.1
    clear G1793 dd1798 pr1788 pr1794 rf1796 rf1797 s1799 s1800 s1801 s1802 s1803 s1804 s1805 s1806 s1807 s1808 s1809 s1810 s1811 s1812 s1813 s1814 s1815 s1816 s1817 s1818 s1819 s1820 s1821 s1822 s1823 s1824 s1825 s1826 sS1795 t1731 t1732 t1733 t1734 t1735 t1736 t1737 t1738 t1739 t1740 t1741 t1742 t1743 t1744 t1745 t1746 t1747 t1748 t1749 t1750 t1751 t1752 t1753 t1754 t1755 t1756 t1757 t1758 t1759 uq1725
    refine gs_rput rfl (by decide) rfl sS1898.1 t1837 nx rw1833.2.1 rf1834 rfl (Or.inr rfl) (fun h1899 g1900 nh1899 mh1899 kh1899 zh1899 eh1899 fh1899 => ?_)
    have G1901 : gSg [1, 2, 3, 4, 5, 6, 7, 8, 9, 10, 11, 12, 13, 14, 15, 16, 17, 18, 19, 20, 21, 22, 23, 24, 25, 26, 27, 28, 29, 30, 31, 32, 33, 34, 35, 36, 37, 38, 39, 40, 41, 42, 200] [x] [8999, 10999, 31999] ty h ty1827 h1899 := gSg.tr (gSg.ss G1832 sS1898 (by decide)) g1900 (by decide) (by decide) (fun x hx => Or.inr hx)
    have pr1902 := gOyB.gr g1900 sS1898.1 rfl (by decide) (by decide) pr1897
    have sS1903 : gSs rT 1027 ty1827 [8999, 10999, 31999] h1899 h1899 := gSs.rf g1900.1
    have rf1904 := Nat.lt_of_lt_of_eq rw1833.2.1 nh1899.symm
    have rf1905 := zh1899.trans rf1835
    have dd1906 : ∀ k, ¬ k ∈ ([58, 57, 56, 55, 54, 49, 40, 38, 37, 36, 35, 34, 33, 32, 31, 30, 29, 28, 27, 26, 25, 15, 14, 13, 12, 11, 10, 9, 4, 2] : List Nat) → h1899.2.2.2.2 x k = defaultValue (gGG.2.1 12 k) := raw_dp fh1899 dd1836
    have s1907 := (fh1899 2 (by decide)).trans s1867
    have s1908 := (fh1899 4 (by decide)).trans s1868
    have s1909 := (fh1899 9 (by decide)).trans s1869
    have s1910 := (fh1899 10 (by decide)).trans s1870
    have s1911 := (fh1899 11 (by decide)).trans s1871
    have s1912 := (fh1899 12 (by decide)).trans s1872
    have s1913 := (fh1899 13 (by decide)).trans s1873
    have s1914 := (fh1899 14 (by decide)).trans s1874
    have s1915 := (fh1899 15 (by decide)).trans s1875
    have s1916 := (fh1899 25 (by decide)).trans s1876
    have s1917 := (fh1899 26 (by decide)).trans s1877
    have s1918 := (fh1899 27 (by decide)).trans s1878
    have s1919 := (fh1899 28 (by decide)).trans s1879
    have s1920 := (fh1899 29 (by decide)).trans s1880
    have s1921 := (fh1899 30 (by decide)).trans s1881
    have s1922 := (fh1899 31 (by decide)).trans s1882
    have s1923 := (fh1899 32 (by decide)).trans s1883
    have s1924 := (fh1899 33 (by decide)).trans s1884
    have s1925 := (fh1899 34 (by decide)).trans s1885
    have s1926 := (fh1899 35 (by decide)).trans s1886
    have s1927 := (fh1899 36 (by decide)).trans s1887
    have s1928 := (fh1899 37 (by decide)).trans s1888
    have s1929 := (fh1899 38 (by decide)).trans s1889
    have s1930 := (fh1899 40 (by decide)).trans s1890
    have s1931 := (fh1899 49 (by decide)).trans s1891
    have s1932 := (fh1899 54 (by decide)).trans s1892
    have s1933 := (fh1899 55 (by decide)).trans s1893
    have s1934 := (fh1899 56 (by decide)).trans s1894
    have s1935 := (fh1899 57 (by decide)).trans s1895
    clear G1832 dd1836 pr1897 rf1834 rf1835 rw1833 s1867 s1868 s1869 s1870 s1871 s1872 s1873 s1874 s1875 s1876 s1877 s1878 s1879 s1880 s1881 s1882 s1883 s1884 s1885 s1886 s1887 s1888 s1889 s1890 s1891 s1892 s1893 s1894 s1895 sS1898
    refine gz_s 1 (pc' := 242) (L' := [some (.ref x), none, none, none, none]) (S' := [.ref x]) rfl ?_
    refine gz_1 rfl (by decide) rfl rfl (pc' := 244) (S' := [.int (zi 60000), .ref x]) (h' := h1899) rfl ?_
    refine gs_newr 32 rfl (by decide) rfl sS1903.1 (Nat.le_of_lt (Nat.lt_of_le_of_lt (gJ.cell sS1903.1 t1838 rfl).1 (gJ.cell sS1903.1 t1838 rfl).2.1)) (by omega) (by omega) rfl rfl (by show (60000 : Int) ≤ _; omega) (by show _ ≤ (60000 : Int); omega) (fun _ _ => gos_i (by decide) (by decide)) (fun ty1936 h1937 c1938 g1939 tc1938 lc1938 nc1938 mc1938 ec1938 dc1938 uc1938 => ?_)
    have gac1938 : h.1 ≤ c1938 := by have h8 := G1901.2.1; have h9 := sS1903.2.1; omega
    have uq1940 := uc1938 uq1831 (Or.inr (gNo.sub (by decide +kernel) pr1896))
    have G1941 : gSg [1, 2, 3, 4, 5, 6, 7, 8, 9, 10, 11, 12, 13, 14, 15, 16, 17, 18, 19, 20, 21, 22, 23, 24, 25, 26, 27, 28, 29, 30, 31, 32, 33, 34, 35, 36, 37, 38, 39, 40, 41, 42, 200] [x] [8999, 10999, 31999] ty h ty1936 h1937 := gSg.tr (gSg.ss G1901 sS1903 (by decide)) g1939 (by decide) (by decide) (fun x hx => by cases hx)
    have rw1942 := gSg.raw g1939 rf1904 (fun w => by cases w)
    have rf1943 := (rw1942.2.2.1.trans kh1899)
    have rf1944 := (rw1942.2.2.2.trans rf1905)
    have dd1945 := gSg.rawd (ci := 12) (ps := [58, 57, 56, 55, 54, 49, 40, 38, 37, 36, 35, 34, 33, 32, 31, 30, 29, 28, 27, 26, 25, 15, 14, 13, 12, 11, 10, 9, 4, 2]) g1939 rf1904 (fun w => by cases w) t1837 (by decide) dd1906
    have t1946 : ty1936 x = 200 := rw1942.1.trans t1837
    have t1947 : ty1936 c3 = 2 := gSg.typ g1939 sS1903.1 t1838 rTk_2
    have t1948 : ty1936 c23 = 3 := gSg.typ g1939 sS1903.1 t1839 rTk_3
    have t1949 : ty1936 c46 = 4 := gSg.typ g1939 sS1903.1 t1840 rTk_4
    have t1950 : ty1936 c72 = 5 := gSg.typ g1939 sS1903.1 t1841 rTk_5
    have t1951 : ty1936 c101 = 6 := gSg.typ g1939 sS1903.1 t1842 rTk_6
    have t1952 : ty1936 c133 = 7 := gSg.typ g1939 sS1903.1 t1843 rTk_7
    have t1953 : ty1936 c171 = 8 := gSg.typ g1939 sS1903.1 t1844 rTk_8
    have t1954 : ty1936 c209 = 9 := gSg.typ g1939 sS1903.1 t1845 rTk_9
    have t1955 : ty1936 c250 = 10 := gSg.typ g1939 sS1903.1 t1846 rTk_10
    have t1956 : ty1936 c294 = 11 := gSg.typ g1939 sS1903.1 t1847 rTk_11
    have t1957 : ty1936 c341 = 12 := gSg.typ g1939 sS1903.1 t1848 rTk_12
    have t1958 : ty1936 c391 = 13 := gSg.typ g1939 sS1903.1 t1849 rTk_13
    have t1959 : ty1936 c447 = 14 := gSg.typ g1939 sS1903.1 t1850 rTk_14
    have t1960 : ty1936 c503 = 15 := gSg.typ g1939 sS1903.1 t1851 rTk_15
    have t1961 : ty1936 c562 = 16 := gSg.typ g1939 sS1903.1 t1852 rTk_16
    have t1962 : ty1936 c624 = 17 := gSg.typ g1939 sS1903.1 t1853 rTk_17
    have t1963 : ty1936 c689 = 18 := gSg.typ g1939 sS1903.1 t1854 rTk_18
    have t1964 : ty1936 c760 = 19 := gSg.typ g1939 sS1903.1 t1855 rTk_19
    have t1965 : ty1936 c831 = 20 := gSg.typ g1939 sS1903.1 t1856 rTk_20
    have t1966 : ty1936 c905 = 21 := gSg.typ g1939 sS1903.1 t1857 rTk_21
    have t1967 : ty1936 c982 = 22 := gSg.typ g1939 sS1903.1 t1858 rTk_22
    have t1968 : ty1936 c1065 = 23 := gSg.typ g1939 sS1903.1 t1859 rTk_23
    have t1969 : ty1936 c1148 = 24 := gSg.typ g1939 sS1903.1 t1860 rTk_24
    have t1970 : ty1936 c1234 = 25 := gSg.typ g1939 sS1903.1 t1861 rTk_25
    have t1971 : ty1936 c1323 = 26 := gSg.typ g1939 sS1903.1 t1862 rTk_26
    have t1972 : ty1936 c1420 = 27 := gSg.typ g1939 sS1903.1 t1863 rTk_27
    have t1973 : ty1936 c1517 = 28 := gSg.typ g1939 sS1903.1 t1864 rTk_28
    have t1974 : ty1936 c1617 = 29 := gSg.typ g1939 sS1903.1 t1865 rTk_29
    have t1975 : ty1936 c1723 = 30 := gSg.typ g1939 sS1903.1 t1866 rTk_30
    have t1976 : ty1936 c1829 = 31 := gSg.typ g1939 sS1903.1 tc1829 rTk_31
    have s1977 := gSg.rawat g1939 rf1904 (fun w => by cases w) t1837 (by decide) s1907
    have s1978 := gSg.rawat g1939 rf1904 (fun w => by cases w) t1837 (by decide) s1908
    have s1979 := gSg.rawat g1939 rf1904 (fun w => by cases w) t1837 (by decide) s1909
    have s1980 := gSg.rawat g1939 rf1904 (fun w => by cases w) t1837 (by decide) s1910
    have s1981 := gSg.rawat g1939 rf1904 (fun w => by cases w) t1837 (by decide) s1911
    have s1982 := gSg.rawat g1939 rf1904 (fun w => by cases w) t1837 (by decide) s1912
    have s1983 := gSg.rawat g1939 rf1904 (fun w => by cases w) t1837 (by decide) s1913
    have s1984 := gSg.rawat g1939 rf1904 (fun w => by cases w) t1837 (by decide) s1914
    have s1985 := gSg.rawat g1939 rf1904 (fun w => by cases w) t1837 (by decide) s1915
    have s1986 := gSg.rawat g1939 rf1904 (fun w => by cases w) t1837 (by decide) s1916
    have s1987 := gSg.rawat g1939 rf1904 (fun w => by cases w) t1837 (by decide) s1917
    have s1988 := gSg.rawat g1939 rf1904 (fun w => by cases w) t1837 (by decide) s1918
    have s1989 := gSg.rawat g1939 rf1904 (fun w => by cases w) t1837 (by decide) s1919
    have s1990 := gSg.rawat g1939 rf1904 (fun w => by cases w) t1837 (by decide) s1920
    have s1991 := gSg.rawat g1939 rf1904 (fun w => by cases w) t1837 (by decide) s1921
    have s1992 := gSg.rawat g1939 rf1904 (fun w => by cases w) t1837 (by decide) s1922
    have s1993 := gSg.rawat g1939 rf1904 (fun w => by cases w) t1837 (by decide) s1923
    have s1994 := gSg.rawat g1939 rf1904 (fun w => by cases w) t1837 (by decide) s1924
    have s1995 := gSg.rawat g1939 rf1904 (fun w => by cases w) t1837 (by decide) s1925
    have s1996 := gSg.rawat g1939 rf1904 (fun w => by cases w) t1837 (by decide) s1926
    have s1997 := gSg.rawat g1939 rf1904 (fun w => by cases w) t1837 (by decide) s1927
    have s1998 := gSg.rawat g1939 rf1904 (fun w => by cases w) t1837 (by decide) s1928
    have s1999 := gSg.rawat g1939 rf1904 (fun w => by cases w) t1837 (by decide) s1929
    have s2000 := gSg.rawat g1939 rf1904 (fun w => by cases w) t1837 (by decide) s1930
    have s2001 := gSg.rawat g1939 rf1904 (fun w => by cases w) t1837 (by decide) s1931
    have s2002 := gSg.rawat g1939 rf1904 (fun w => by cases w) t1837 (by decide) s1932
    have s2003 := gSg.rawat g1939 rf1904 (fun w => by cases w) t1837 (by decide) s1933
    have s2004 := gSg.rawat g1939 rf1904 (fun w => by cases w) t1837 (by decide) s1934
    have s2005 := gSg.rawat g1939 rf1904 (fun w => by cases w) t1837 (by decide) s1935
    have s2006 := gSg.rawat g1939 rf1904 (fun w => by cases w) t1837 (by decide) eh1899
    have pr2007 : gNo [1, 33, 34, 35, 36, 37, 38, 39, 40, 41, 42] ty1936 := gNo.gr g1939 (by decide +kernel) (gNo.sub (by decide +kernel) pr1896)
    have pr2008 := gOyB.gr g1939 sS1903.1 rfl (by decide) (by decide) pr1902
    have sS2009 : gSs rT 1027 ty1936 [8999, 10999, 31999] h1937 h1937 := gSs.rf g1939.1
    clear G1901 dd1906 pr1896 pr1902 rf1904 rf1905 s1907 s1908 s1909 s1910 s1911 s1912 s1913 s1914 s1915 s1916 s1917 s1918 s1919 s1920 s1921 s1922 s1923 s1924 s1925 s1926 s1927 s1928 s1929 s1930 s1931 s1932 s1933 s1934 s1935 sS1903 t1837 t1838 t1839 t1840 t1841 t1842 t1843 t1844 t1845 t1846 t1847 t1848 t1849 t1850 t1851 t1852 t1853 t1854 t1855 t1856 t1857 t1858 t1859 t1860 t1861 t1862 t1863 t1864 t1865 t1866 uq1831
    refine gs_rput rfl (by decide) rfl sS2009.1 t1946 nx rw1942.2.1 rf1943 rfl (Or.inr rfl) (fun h2010 g2011 nh2010 mh2010 kh2010 zh2010 eh2010 fh2010 => ?_)
    have G2012 : gSg [1, 2, 3, 4, 5, 6, 7, 8, 9, 10, 11, 12, 13, 14, 15, 16, 17, 18, 19, 20, 21, 22, 23, 24, 25, 26, 27, 28, 29, 30, 31, 32, 33, 34, 35, 36, 37, 38, 39, 40, 41, 42, 200] [x] [8999, 10999, 31999] ty h ty1936 h2010 := gSg.tr (gSg.ss G1941 sS2009 (by decide)) g2011 (by decide) (by decide) (fun x hx => Or.inr hx)
    have pr2013 := gOyB.gr g2011 sS2009.1 rfl (by decide) (by decide) pr2008
    have sS2014 : gSs rT 1027 ty1936 [8999, 10999, 31999] h2010 h2010 := gSs.rf g2011.1
    have rf2015 := Nat.lt_of_lt_of_eq rw1942.2.1 nh2010.symm
    have rf2016 := zh2010.trans rf1944
    have dd2017 : ∀ k, ¬ k ∈ ([60, 58, 57, 56, 55, 54, 49, 40, 38, 37, 36, 35, 34, 33, 32, 31, 30, 29, 28, 27, 26, 25, 15, 14, 13, 12, 11, 10, 9, 4, 2] : List Nat) → h2010.2.2.2.2 x k = defaultValue (gGG.2.1 12 k) := raw_dp fh2010 dd1945
    have s2018 := (fh2010 2 (by decide)).trans s1977
    have s2019 := (fh2010 4 (by decide)).trans s1978
    have s2020 := (fh2010 9 (by decide)).trans s1979
    have s2021 := (fh2010 10 (by decide)).trans s1980
    have s2022 := (fh2010 11 (by decide)).trans s1981
    have s2023 := (fh2010 12 (by decide)).trans s1982
    have s2024 := (fh2010 13 (by decide)).trans s1983
    have s2025 := (fh2010 14 (by decide)).trans s1984
    have s2026 := (fh2010 15 (by decide)).trans s1985
    have s2027 := (fh2010 25 (by decide)).trans s1986
    have s2028 := (fh2010 26 (by decide)).trans s1987
    have s2029 := (fh2010 27 (by decide)).trans s1988
    have s2030 := (fh2010 28 (by decide)).trans s1989
    have s2031 := (fh2010 29 (by decide)).trans s1990
    have s2032 := (fh2010 30 (by decide)).trans s1991
    have s2033 := (fh2010 31 (by decide)).trans s1992
    have s2034 := (fh2010 32 (by decide)).trans s1993
    have s2035 := (fh2010 33 (by decide)).trans s1994
    have s2036 := (fh2010 34 (by decide)).trans s1995
    have s2037 := (fh2010 35 (by decide)).trans s1996
    have s2038 := (fh2010 36 (by decide)).trans s1997
    have s2039 := (fh2010 37 (by decide)).trans s1998
    have s2040 := (fh2010 38 (by decide)).trans s1999
    have s2041 := (fh2010 40 (by decide)).trans s2000
    have s2042 := (fh2010 49 (by decide)).trans s2001
    have s2043 := (fh2010 54 (by decide)).trans s2002
    have s2044 := (fh2010 55 (by decide)).trans s2003
    have s2045 := (fh2010 56 (by decide)).trans s2004
    have s2046 := (fh2010 57 (by decide)).trans s2005
    have s2047 := (fh2010 58 (by decide)).trans s2006
    clear G1941 dd1945 pr2008 rf1943 rf1944 rw1942 s1977 s1978 s1979 s1980 s1981 s1982 s1983 s1984 s1985 s1986 s1987 s1988 s1989 s1990 s1991 s1992 s1993 s1994 s1995 s1996 s1997 s1998 s1999 s2000 s2001 s2002 s2003 s2004 s2005 s2006 sS2009
    have lp2048 := cmlp2048 d hJ x nx c3 c23 c46 c72 c101 c133 c171 c209 c250 c294 c341 c391 c447 c503 c562 c624 c689 c760 c831 c905 c982 c1065 c1148 c1234 c1323 c1420 c1517 c1617 c1723 c1829 c1938
    have G3608 : gSg [1, 2, 3, 4, 5, 6, 7, 8, 9, 10, 11, 12, 13, 14, 15, 16, 17, 18, 19, 20, 21, 22, 23, 24, 25, 26, 27, 28, 29, 30, 31, 32, 33, 34, 35, 36, 37, 38, 39, 40, 41, 42, 200] [x] [8999, 10999, 31999] ty h ty1936 h2010 := gSg.ss G2012 sS2014 (by decide)
    exact gz_wk (lp2048 _ ty1936 h2010  (Nat.lt_succ_self _) G3608 uq1940 t1946 t1947 t1948 t1949 t1950 t1951 t1952 t1953 t1954 t1955 t1956 t1957 t1958 t1959 t1960 t1961 t1962 t1963 t1964 t1965 t1966 t1967 t1968 t1969 t1970 t1971 t1972 t1973 t1974 t1975 t1976 tc1938 (by omega) (by omega) s2018 s2019 s2020 s2021 s2022 s2023 s2024 s2025 s2026 s2027 s2028 s2029 s2030 s2031 s2032 s2033 s2034 s2035 s2036 s2037 s2038 s2039 s2040 s2041 s2042 s2043 s2044 s2045 s2046 s2047 eh2010 pr2007 pr2013 rf2015 kh2010 rf2016 dd2017) (gLw.s (gLw.n (gLw.n (gLw.n (gLw.n gLw.z)))))
set_option maxRecDepth 20000 in
set_option maxHeartbeats 4000000 in
theorem cmlp1415 (d : Nat) {ty : Nat → Nat} {h : gH} (hJ : gJ rT 1027 ty h) (x : Nat) (nx : 1027 ≤ x) (c3 c23 c46 c72 c101 c133 c171 c209 c250 c294 c341 c391 c447 c503 c562 c624 c689 c760 c831 c905 c982 c1065 c1148 c1234 c1323 : Nat) : ∀ (fu : Nat) (ty1417 : Nat → Nat) (h1416 : gH), ((1 : Int)).toNat < fu → gSg [1, 2, 3, 4, 5, 6, 7, 8, 9, 10, 11, 12, 13, 14, 15, 16, 17, 18, 19, 20, 21, 22, 23, 24, 25, 26, 27, 28, 29, 30, 31, 32, 33, 34, 35, 36, 37, 38, 39, 40, 41, 42, 200] [x] [8999, 10999, 31999] ty h ty1417 h1416 → gUq ty1417 → ty1417 x = 200 → ty1417 c3 = 2 → ty1417 c23 = 3 → ty1417 c46 = 4 → ty1417 c72 = 5 → ty1417 c101 = 6 → ty1417 c133 = 7 → ty1417 c171 = 8 → ty1417 c209 = 9 → ty1417 c250 = 10 → ty1417 c294 = 11 → ty1417 c341 = 12 → ty1417 c391 = 13 → ty1417 c447 = 14 → ty1417 c503 = 15 → ty1417 c562 = 16 → ty1417 c624 = 17 → ty1417 c689 = 18 → ty1417 c760 = 19 → ty1417 c831 = 20 → ty1417 c905 = 21 → ty1417 c982 = 22 → ty1417 c1065 = 23 → ty1417 c1148 = 24 → ty1417 c1234 = 25 → ty1417 c1323 = 26 → ((h1416.1 : Int) = h.1 + 25) → ((h1416.2.1 : Int) = h.2.1 + 24295) → h1416.2.2.2.2 x 2 = .ref c3 → h1416.2.2.2.2 x 4 = .ref c23 → h1416.2.2.2.2 x 9 = .ref c46 → h1416.2.2.2.2 x 10 = .ref c72 → h1416.2.2.2.2 x 11 = .ref c101 → h1416.2.2.2.2 x 12 = .ref c133 → h1416.2.2.2.2 x 13 = .ref c171 → h1416.2.2.2.2 x 14 = .ref c209 → h1416.2.2.2.2 x 15 = .ref c250 → h1416.2.2.2.2 x 25 = .ref c294 → h1416.2.2.2.2 x 26 = .ref c341 → h1416.2.2.2.2 x 27 = .ref c391 → h1416.2.2.2.2 x 28 = .ref c447 → h1416.2.2.2.2 x 29 = .ref c503 → h1416.2.2.2.2 x 30 = .ref c562 → h1416.2.2.2.2 x 31 = .ref c624 → h1416.2.2.2.2 x 32 = .ref c689 → h1416.2.2.2.2 x 33 = .ref c760 → h1416.2.2.2.2 x 34 = .ref c831 → h1416.2.2.2.2 x 35 = .ref c905 → h1416.2.2.2.2 x 36 = .ref c982 → h1416.2.2.2.2 x 37 = .ref c1065 → h1416.2.2.2.2 x 38 = .ref c1148 → h1416.2.2.2.2 x 40 = .ref c1234 → h1416.2.2.2.2 x 49 = .ref c1323 → gNo [1, 27, 28, 29, 30, 31, 32, 33, 34, 35, 36, 37, 38, 39, 40, 41, 42] ty1417 → gOyB ty1417 26 0 1024 h1416 → x < h1416.1 → h1416.2.2.1 x = some (.inr 12) → h1416.2.2.2.1 x = 0 → (∀ k, ¬ k ∈ ([49, 40, 38, 37, 36, 35, 34, 33, 32, 31, 30, 29, 28, 27, 26, 25, 15, 14, 13, 12, 11, 10, 9, 4, 2] : List Nat) → h1416.2.2.2.2 x k = defaultValue (gGG.2.1 12 k)) → gz gPP gGG gcn (d + 1) gt130 201 [some (.ref x), none, none, none, none] [] h1416 (fun q _ => ∃ ty9 : Nat → Nat, gSg [1, 2, 3, 4, 5, 6, 7, 8, 9, 10, 11, 12, 13, 14, 15, 16, 17, 18, 19, 20, 21, 22, 23, 24, 25, 26, 27, 28, 29, 30, 31, 32, 33, 34, 35, 36, 37, 38, 39, 40, 41, 42, 200] [x] [8999, 10999, 31999] ty h ty9 q.2.2 ∧ ∃ ip n1 cw ch iv1 : Int, ty9 x = 1 ∧ gfin gt130 q.1 q.2.1 = some none ∧ q.2.2.2.2.2.2 x 16 = .int (zi ip) ∧ 0 ≤ ip ∧ ip ≤ 1 ∧ q.2.2.2.2.2.2 x 53 = .int (zi n1) ∧ 0 ≤ n1 ∧ n1 ≤ 10 ∧ q.2.2.2.2.2.2 x 50 = .int (zi cw) ∧ 0 ≤ cw ∧ cw ≤ 32 ∧ q.2.2.2.2.2.2 x 51 = .int (zi ch) ∧ 0 ≤ ch ∧ ch ≤ 32 ∧ q.2.2.2.2.2.2 x 52 = .int (zi iv1) ∧ 0 ≤ iv1 ∧ iv1 ≤ 100 ∧ (ip = 0) ∧ (n1 = 0) ∧ (cw = 0) ∧ (ch = 0) ∧ (iv1 = 0) ∧ ((q.2.2.1 : Int) = h.1 + 41) ∧ ((q.2.2.2.1 : Int) = h.2.1 + 88652) ∧ (gTs ty9 0 q.2.2) ∧ (gOyB ty9 26 0 1024 q.2.2) ∧ gUq ty9) := by
  intro fu
  induction fu with
  | zero => intro ty1417 h1416  hm; exact absurd hm (Nat.not_lt_zero _)
  | succ fu ihlp1415 =>
    intro ty1417 h1416  lp1415m lp1415G lp1415u lp1415c0 lp1415c1 lp1415c2 lp1415c3 lp1415c4 lp1415c5 lp1415c6 lp1415c7 lp1415c8 lp1415c9 lp1415c10 lp1415c11 lp1415c12 lp1415c13 lp1415c14 lp1415c15 lp1415c16 lp1415c17 lp1415c18 lp1415c19 lp1415c20 lp1415c21 lp1415c22 lp1415c23 lp1415c24 lp1415c25 lp1415f0 lp1415f1 lp1415k0 lp1415k1 lp1415k2 lp1415k3 lp1415k4 lp1415k5 lp1415k6 lp1415k7 lp1415k8 lp1415k9 lp1415k10 lp1415k11 lp1415k12 lp1415k13 lp1415k14 lp1415k15 lp1415k16 lp1415k17 lp1415k18 lp1415k19 lp1415k20 lp1415k21 lp1415k22 lp1415k23 lp1415k24 lp1415k25 lp1415k26 lp1415w0 lp1415w1 lp1415w2 lp1415w3
    have sh1416 : gSs rT 1027 ty1417 [8999, 10999, 31999] h1416 h1416 := gSs.rf lp1415G.1
    refine gz_s 2 (pc' := 204) (L' := [some (.ref x), none, none, none, none]) (S' := [.int (zi 10), .ref x]) rfl ?_
    refine gs_newr 27 rfl (by decide) rfl sh1416.1 (Nat.le_of_lt (Nat.lt_of_le_of_lt (gJ.cell sh1416.1 lp1415c1 rfl).1 (gJ.cell sh1416.1 lp1415c1 rfl).2.1)) (by omega) (by omega) rfl rfl (by show (10 : Int) ≤ _; omega) (by show _ ≤ (10 : Int); omega) (fun _ _ => gos_i (by decide) (by decide)) (fun ty1418 h1419 c1420 g1421 tc1420 lc1420 nc1420 mc1420 ec1420 dc1420 uc1420 => ?_)
    have gac1420 : h.1 ≤ c1420 := by have h8 := lp1415G.2.1; have h9 := sh1416.2.1; omega
    have uq1422 := uc1420 lp1415u (Or.inr (gNo.sub (by decide +kernel) lp1415k25))
    have G1423 : gSg [1, 2, 3, 4, 5, 6, 7, 8, 9, 10, 11, 12, 13, 14, 15, 16, 17, 18, 19, 20, 21, 22, 23, 24, 25, 26, 27, 28, 29, 30, 31, 32, 33, 34, 35, 36, 37, 38, 39, 40, 41, 42, 200] [x] [8999, 10999, 31999] ty h ty1418 h1419 := gSg.tr (gSg.ss lp1415G sh1416 (by decide)) g1421 (by decide) (by decide) (fun x hx => by cases hx)
    have rw1424 := gSg.raw g1421 lp1415w0 (fun w => by cases w)
    have rf1425 := (rw1424.2.2.1.trans lp1415w1)
    have rf1426 := (rw1424.2.2.2.trans lp1415w2)
    have dd1427 := gSg.rawd (ci := 12) (ps := [49, 40, 38, 37, 36, 35, 34, 33, 32, 31, 30, 29, 28, 27, 26, 25, 15, 14, 13, 12, 11, 10, 9, 4, 2]) g1421 lp1415w0 (fun w => by cases w) lp1415c0 (by decide) lp1415w3
    have t1428 : ty1418 x = 200 := rw1424.1.trans lp1415c0
    have t1429 : ty1418 c3 = 2 := gSg.typ g1421 sh1416.1 lp1415c1 rTk_2
    have t1430 : ty1418 c23 = 3 := gSg.typ g1421 sh1416.1 lp1415c2 rTk_3
    have t1431 : ty1418 c46 = 4 := gSg.typ g1421 sh1416.1 lp1415c3 rTk_4
    have t1432 : ty1418 c72 = 5 := gSg.typ g1421 sh1416.1 lp1415c4 rTk_5
    have t1433 : ty1418 c101 = 6 := gSg.typ g1421 sh1416.1 lp1415c5 rTk_6
    have t1434 : ty1418 c133 = 7 := gSg.typ g1421 sh1416.1 lp1415c6 rTk_7
    have t1435 : ty1418 c171 = 8 := gSg.typ g1421 sh1416.1 lp1415c7 rTk_8
    have t1436 : ty1418 c209 = 9 := gSg.typ g1421 sh1416.1 lp1415c8 rTk_9
    have t1437 : ty1418 c250 = 10 := gSg.typ g1421 sh1416.1 lp1415c9 rTk_10
    have t1438 : ty1418 c294 = 11 := gSg.typ g1421 sh1416.1 lp1415c10 rTk_11
    have t1439 : ty1418 c341 = 12 := gSg.typ g1421 sh1416.1 lp1415c11 rTk_12
    have t1440 : ty1418 c391 = 13 := gSg.typ g1421 sh1416.1 lp1415c12 rTk_13
    have t1441 : ty1418 c447 = 14 := gSg.typ g1421 sh1416.1 lp1415c13 rTk_14
    have t1442 : ty1418 c503 = 15 := gSg.typ g1421 sh1416.1 lp1415c14 rTk_15
    have t1443 : ty1418 c562 = 16 := gSg.typ g1421 sh1416.1 lp1415c15 rTk_16
    have t1444 : ty1418 c624 = 17 := gSg.typ g1421 sh1416.1 lp1415c16 rTk_17
    have t1445 : ty1418 c689 = 18 := gSg.typ g1421 sh1416.1 lp1415c17 rTk_18
    have t1446 : ty1418 c760 = 19 := gSg.typ g1421 sh1416.1 lp1415c18 rTk_19
    have t1447 : ty1418 c831 = 20 := gSg.typ g1421 sh1416.1 lp1415c19 rTk_20
    have t1448 : ty1418 c905 = 21 := gSg.typ g1421 sh1416.1 lp1415c20 rTk_21
    have t1449 : ty1418 c982 = 22 := gSg.typ g1421 sh1416.1 lp1415c21 rTk_22
    have t1450 : ty1418 c1065 = 23 := gSg.typ g1421 sh1416.1 lp1415c22 rTk_23
    have t1451 : ty1418 c1148 = 24 := gSg.typ g1421 sh1416.1 lp1415c23 rTk_24
    have t1452 : ty1418 c1234 = 25 := gSg.typ g1421 sh1416.1 lp1415c24 rTk_25
    have t1453 : ty1418 c1323 = 26 := gSg.typ g1421 sh1416.1 lp1415c25 rTk_26
    have s1454 := gSg.rawat g1421 lp1415w0 (fun w => by cases w) lp1415c0 (by decide) lp1415k0
    have s1455 := gSg.rawat g1421 lp1415w0 (fun w => by cases w) lp1415c0 (by decide) lp1415k1
    have s1456 := gSg.rawat g1421 lp1415w0 (fun w => by cases w) lp1415c0 (by decide) lp1415k2
    have s1457 := gSg.rawat g1421 lp1415w0 (fun w => by cases w) lp1415c0 (by decide) lp1415k3
    have s1458 := gSg.rawat g1421 lp1415w0 (fun w => by cases w) lp1415c0 (by decide) lp1415k4
    have s1459 := gSg.rawat g1421 lp1415w0 (fun w => by cases w) lp1415c0 (by decide) lp1415k5
    have s1460 := gSg.rawat g1421 lp1415w0 (fun w => by cases w) lp1415c0 (by decide) lp1415k6
    have s1461 := gSg.rawat g1421 lp1415w0 (fun w => by cases w) lp1415c0 (by decide) lp1415k7
    have s1462 := gSg.rawat g1421 lp1415w0 (fun w => by cases w) lp1415c0 (by decide) lp1415k8
    have s1463 := gSg.rawat g1421 lp1415w0 (fun w => by cases w) lp1415c0 (by decide) lp1415k9
    have s1464 := gSg.rawat g1421 lp1415w0 (fun w => by cases w) lp1415c0 (by decide) lp1415k10
    have s1465 := gSg.rawat g1421 lp1415w0 (fun w => by cases w) lp1415c0 (by decide) lp1415k11
    have s1466 := gSg.rawat g1421 lp1415w0 (fun w => by cases w) lp1415c0 (by decide) lp1415k12
    have s1467 := gSg.rawat g1421 lp1415w0 (fun w => by cases w) lp1415c0 (by decide) lp1415k13
    have s1468 := gSg.rawat g1421 lp1415w0 (fun w => by cases w) lp1415c0 (by decide) lp1415k14
    have s1469 := gSg.rawat g1421 lp1415w0 (fun w => by cases w) lp1415c0 (by decide) lp1415k15
    have s1470 := gSg.rawat g1421 lp1415w0 (fun w => by cases w) lp1415c0 (by decide) lp1415k16
    have s1471 := gSg.rawat g1421 lp1415w0 (fun w => by cases w) lp1415c0 (by decide) lp1415k17
    have s1472 := gSg.rawat g1421 lp1415w0 (fun w => by cases w) lp1415c0 (by decide) lp1415k18
    have s1473 := gSg.rawat g1421 lp1415w0 (fun w => by cases w) lp1415c0 (by decide) lp1415k19
    have s1474 := gSg.rawat g1421 lp1415w0 (fun w => by cases w) lp1415c0 (by decide) lp1415k20
    have s1475 := gSg.rawat g1421 lp1415w0 (fun w => by cases w) lp1415c0 (by decide) lp1415k21
    have s1476 := gSg.rawat g1421 lp1415w0 (fun w => by cases w) lp1415c0 (by decide) lp1415k22
    have s1477 := gSg.rawat g1421 lp1415w0 (fun w => by cases w) lp1415c0 (by decide) lp1415k23
    have s1478 := gSg.rawat g1421 lp1415w0 (fun w => by cases w) lp1415c0 (by decide) lp1415k24
    have pr1479 : gNo [1, 28, 29, 30, 31, 32, 33, 34, 35, 36, 37, 38, 39, 40, 41, 42] ty1418 := gNo.gr g1421 (by decide +kernel) (gNo.sub (by decide +kernel) lp1415k25)
    have pr1480 := gOyB.gr g1421 sh1416.1 rfl (by decide) (by decide) lp1415k26
    have sS1481 : gSs rT 1027 ty1418 [8999, 10999, 31999] h1419 h1419 := gSs.rf g1421.1
    refine gs_rput rfl (by decide) rfl sS1481.1 t1428 nx rw1424.2.1 rf1425 rfl (Or.inr rfl) (fun h1482 g1483 nh1482 mh1482 kh1482 zh1482 eh1482 fh1482 => ?_)
    have G1484 : gSg [1, 2, 3, 4, 5, 6, 7, 8, 9, 10, 11, 12, 13, 14, 15, 16, 17, 18, 19, 20, 21, 22, 23, 24, 25, 26, 27, 28, 29, 30, 31, 32, 33, 34, 35, 36, 37, 38, 39, 40, 41, 42, 200] [x] [8999, 10999, 31999] ty h ty1418 h1482 := gSg.tr (gSg.ss G1423 sS1481 (by decide)) g1483 (by decide) (by decide) (fun x hx => Or.inr hx)
    have pr1485 := gOyB.gr g1483 sS1481.1 rfl (by decide) (by decide) pr1480
    have sS1486 : gSs rT 1027 ty1418 [8999, 10999, 31999] h1482 h1482 := gSs.rf g1483.1
    have rf1487 := Nat.lt_of_lt_of_eq rw1424.2.1 nh1482.symm
    have rf1488 := zh1482.trans rf1426
    have dd1489 : ∀ k, ¬ k ∈ ([54, 49, 40, 38, 37, 36, 35, 34, 33, 32, 31, 30, 29, 28, 27, 26, 25, 15, 14, 13, 12, 11, 10, 9, 4, 2] : List Nat) → h1482.2.2.2.2 x k = defaultValue (gGG.2.1 12 k) := raw_dp fh1482 dd1427
    have s1490 := (fh1482 2 (by decide)).trans s1454
    have s1491 := (fh1482 4 (by decide)).trans s1455
    have s1492 := (fh1482 9 (by decide)).trans s1456
    have s1493 := (fh1482 10 (by decide)).trans s1457
    have s1494 := (fh1482 11 (by decide)).trans s1458
    have s1495 := (fh1482 12 (by decide)).trans s1459
    have s1496 := (fh1482 13 (by decide)).trans s1460
    have s1497 := (fh1482 14 (by decide)).trans s1461
    have s1498 := (fh1482 15 (by decide)).trans s1462
    have s1499 := (fh1482 25 (by decide)).trans s1463
    have s1500 := (fh1482 26 (by decide)).trans s1464
    have s1501 := (fh1482 27 (by decide)).trans s1465
    have s1502 := (fh1482 28 (by decide)).trans s1466
    have s1503 := (fh1482 29 (by decide)).trans s1467
    have s1504 := (fh1482 30 (by decide)).trans s1468
    have s1505 := (fh1482 31 (by decide)).trans s1469
    have s1506 := (fh1482 32 (by decide)).trans s1470
    have s1507 := (fh1482 33 (by decide)).trans s1471
    have s1508 := (fh1482 34 (by decide)).trans s1472
    have s1509 := (fh1482 35 (by decide)).trans s1473
    have s1510 := (fh1482 36 (by decide)).trans s1474
    have s1511 := (fh1482 37 (by decide)).trans s1475
    have s1512 := (fh1482 38 (by decide)).trans s1476
    have s1513 := (fh1482 40 (by decide)).trans s1477
    have s1514 := (fh1482 49 (by decide)).trans s1478
    clear G1423 dd1427 pr1480 rf1425 rf1426 rw1424 s1454 s1455 s1456 s1457 s1458 s1459 s1460 s1461 s1462 s1463 s1464 s1465 s1466 s1467 s1468 s1469 s1470 s1471 s1472 s1473 s1474 s1475 s1476 s1477 s1478 sS1481
    refine gz_s 2 (pc' := 212) (L' := [some (.ref x), none, none, none, none]) (S' := [.int (zi 10), .ref x]) rfl ?_
    refine gs_newr 28 rfl (by decide) rfl sS1486.1 (Nat.le_of_lt (Nat.lt_of_le_of_lt (gJ.cell sS1486.1 t1429 rfl).1 (gJ.cell sS1486.1 t1429 rfl).2.1)) (by omega) (by omega) rfl rfl (by show (10 : Int) ≤ _; omega) (by show _ ≤ (10 : Int); omega) (fun _ _ => gos_i (by decide) (by decide)) (fun ty1515 h1516 c1517 g1518 tc1517 lc1517 nc1517 mc1517 ec1517 dc1517 uc1517 => ?_)
    have gac1517 : h.1 ≤ c1517 := by have h8 := G1484.2.1; have h9 := sS1486.2.1; omega
    have uq1519 := uc1517 uq1422 (Or.inr (gNo.sub (by decide +kernel) pr1479))
    have G1520 : gSg [1, 2, 3, 4, 5, 6, 7, 8, 9, 10, 11, 12, 13, 14, 15, 16, 17, 18, 19, 20, 21, 22, 23, 24, 25, 26, 27, 28, 29, 30, 31, 32, 33, 34, 35, 36, 37, 38, 39, 40, 41, 42, 200] [x] [8999, 10999, 31999] ty h ty1515 h1516 := gSg.tr (gSg.ss G1484 sS1486 (by decide)) g1518 (by decide) (by decide) (fun x hx => by cases hx)
    have rw1521 := gSg.raw g1518 rf1487 (fun w => by cases w)
    have rf1522 := (rw1521.2.2.1.trans kh1482)
    have rf1523 := (rw1521.2.2.2.trans rf1488)
    have dd1524 := gSg.rawd (ci := 12) (ps := [54, 49, 40, 38, 37, 36, 35, 34, 33, 32, 31, 30, 29, 28, 27, 26, 25, 15, 14, 13, 12, 11, 10, 9, 4, 2]) g1518 rf1487 (fun w => by cases w) t1428 (by decide) dd1489
    have t1525 : ty1515 x = 200 := rw1521.1.trans t1428
    have t1526 : ty1515 c3 = 2 := gSg.typ g1518 sS1486.1 t1429 rTk_2
    have t1527 : ty1515 c23 = 3 := gSg.typ g1518 sS1486.1 t1430 rTk_3
    have t1528 : ty1515 c46 = 4 := gSg.typ g1518 sS1486.1 t1431 rTk_4
    have t1529 : ty1515 c72 = 5 := gSg.typ g1518 sS1486.1 t1432 rTk_5
    have t1530 : ty1515 c101 = 6 := gSg.typ g1518 sS1486.1 t1433 rTk_6
    have t1531 : ty1515 c133 = 7 := gSg.typ g1518 sS1486.1 t1434 rTk_7
    have t1532 : ty1515 c171 = 8 := gSg.typ g1518 sS1486.1 t1435 rTk_8
    have t1533 : ty1515 c209 = 9 := gSg.typ g1518 sS1486.1 t1436 rTk_9
    have t1534 : ty1515 c250 = 10 := gSg.typ g1518 sS1486.1 t1437 rTk_10
    have t1535 : ty1515 c294 = 11 := gSg.typ g1518 sS1486.1 t1438 rTk_11
    have t1536 : ty1515 c341 = 12 := gSg.typ g1518 sS1486.1 t1439 rTk_12
    have t1537 : ty1515 c391 = 13 := gSg.typ g1518 sS1486.1 t1440 rTk_13
    have t1538 : ty1515 c447 = 14 := gSg.typ g1518 sS1486.1 t1441 rTk_14
    have t1539 : ty1515 c503 = 15 := gSg.typ g1518 sS1486.1 t1442 rTk_15
    have t1540 : ty1515 c562 = 16 := gSg.typ g1518 sS1486.1 t1443 rTk_16
    have t1541 : ty1515 c624 = 17 := gSg.typ g1518 sS1486.1 t1444 rTk_17
    have t1542 : ty1515 c689 = 18 := gSg.typ g1518 sS1486.1 t1445 rTk_18
    have t1543 : ty1515 c760 = 19 := gSg.typ g1518 sS1486.1 t1446 rTk_19
    have t1544 : ty1515 c831 = 20 := gSg.typ g1518 sS1486.1 t1447 rTk_20
    have t1545 : ty1515 c905 = 21 := gSg.typ g1518 sS1486.1 t1448 rTk_21
    have t1546 : ty1515 c982 = 22 := gSg.typ g1518 sS1486.1 t1449 rTk_22
    have t1547 : ty1515 c1065 = 23 := gSg.typ g1518 sS1486.1 t1450 rTk_23
    have t1548 : ty1515 c1148 = 24 := gSg.typ g1518 sS1486.1 t1451 rTk_24
    have t1549 : ty1515 c1234 = 25 := gSg.typ g1518 sS1486.1 t1452 rTk_25
    have t1550 : ty1515 c1323 = 26 := gSg.typ g1518 sS1486.1 t1453 rTk_26
    have t1551 : ty1515 c1420 = 27 := gSg.typ g1518 sS1486.1 tc1420 rTk_27
    have s1552 := gSg.rawat g1518 rf1487 (fun w => by cases w) t1428 (by decide) s1490
    have s1553 := gSg.rawat g1518 rf1487 (fun w => by cases w) t1428 (by decide) s1491
    have s1554 := gSg.rawat g1518 rf1487 (fun w => by cases w) t1428 (by decide) s1492
    have s1555 := gSg.rawat g1518 rf1487 (fun w => by cases w) t1428 (by decide) s1493
    have s1556 := gSg.rawat g1518 rf1487 (fun w => by cases w) t1428 (by decide) s1494
    have s1557 := gSg.rawat g1518 rf1487 (fun w => by cases w) t1428 (by decide) s1495
    have s1558 := gSg.rawat g1518 rf1487 (fun w => by cases w) t1428 (by decide) s1496
    have s1559 := gSg.rawat g1518 rf1487 (fun w => by cases w) t1428 (by decide) s1497
    have s1560 := gSg.rawat g1518 rf1487 (fun w => by cases w) t1428 (by decide) s1498
    have s1561 := gSg.rawat g1518 rf1487 (fun w => by cases w) t1428 (by decide) s1499
    have s1562 := gSg.rawat g1518 rf1487 (fun w => by cases w) t1428 (by decide) s1500
    have s1563 := gSg.rawat g1518 rf1487 (fun w => by cases w) t1428 (by decide) s1501
    have s1564 := gSg.rawat g1518 rf1487 (fun w => by cases w) t1428 (by decide) s1502
    have s1565 := gSg.rawat g1518 rf1487 (fun w => by cases w) t1428 (by decide) s1503
    have s1566 := gSg.rawat g1518 rf1487 (fun w => by cases w) t1428 (by decide) s1504
    have s1567 := gSg.rawat g1518 rf1487 (fun w => by cases w) t1428 (by decide) s1505
    have s1568 := gSg.rawat g1518 rf1487 (fun w => by cases w) t1428 (by decide) s1506
    have s1569 := gSg.rawat g1518 rf1487 (fun w => by cases w) t1428 (by decide) s1507
    have s1570 := gSg.rawat g1518 rf1487 (fun w => by cases w) t1428 (by decide) s1508
    have s1571 := gSg.rawat g1518 rf1487 (fun w => by cases w) t1428 (by decide) s1509
    have s1572 := gSg.rawat g1518 rf1487 (fun w => by cases w) t1428 (by decide) s1510
    have s1573 := gSg.rawat g1518 rf1487 (fun w => by cases w) t1428 (by decide) s1511
    have s1574 := gSg.rawat g1518 rf1487 (fun w => by cases w) t1428 (by decide) s1512
    have s1575 := gSg.rawat g1518 rf1487 (fun w => by cases w) t1428 (by decide) s1513
    have s1576 := gSg.rawat g1518 rf1487 (fun w => by cases w) t1428 (by decide) s1514
    have s1577 := gSg.rawat g1518 rf1487 (fun w => by cases w) t1428 (by decide) eh1482
    have pr1578 : gNo [1, 29, 30, 31, 32, 33, 34, 35, 36, 37, 38, 39, 40, 41, 42] ty1515 := gNo.gr g1518 (by decide +kernel) (gNo.sub (by decide +kernel) pr1479)
    have pr1579 := gOyB.gr g1518 sS1486.1 rfl (by decide) (by decide) pr1485
    have sS1580 : gSs rT 1027 ty1515 [8999, 10999, 31999] h1516 h1516 := gSs.rf g1518.1
    clear G1484 dd1489 pr1479 pr1485 rf1487 rf1488 s1490 s1491 s1492 s1493 s1494 s1495 s1496 s1497 s1498 s1499 s1500 s1501 s1502 s1503 s1504 s1505 s1506 s1507 s1508 s1509 s1510 s1511 s1512 s1513 s1514 sS1486 t1428 t1429 t1430 t1431 t1432 t1433 t1434 t1435 t1436 t1437 t1438 t1439 t1440 t1441 t1442 t1443 t1444 t1445 t1446 t1447 t1448 t1449 t1450 t1451 t1452 t1453 uq1422
    refine gs_rput rfl (by decide) rfl sS1580.1 t1525 nx rw1521.2.1 rf1522 rfl (Or.inr rfl) (fun h1581 g1582 nh1581 mh1581 kh1581 zh1581 eh1581 fh1581 => ?_)
    have G1583 : gSg [1, 2, 3, 4, 5, 6, 7, 8, 9, 10, 11, 12, 13, 14, 15, 16, 17, 18, 19, 20, 21, 22, 23, 24, 25, 26, 27, 28, 29, 30, 31, 32, 33, 34, 35, 36, 37, 38, 39, 40, 41, 42, 200] [x] [8999, 10999, 31999] ty h ty1515 h1581 := gSg.tr (gSg.ss G1520 sS1580 (by decide)) g1582 (by decide) (by decide) (fun x hx => Or.inr hx)
    have pr1584 := gOyB.gr g1582 sS1580.1 rfl (by decide) (by decide) pr1579
    have sS1585 : gSs rT 1027 ty1515 [8999, 10999, 31999] h1581 h1581 := gSs.rf g1582.1
    have rf1586 := Nat.lt_of_lt_of_eq rw1521.2.1 nh1581.symm
    have rf1587 := zh1581.trans rf1523
    have dd1588 : ∀ k, ¬ k ∈ ([55, 54, 49, 40, 38, 37, 36, 35, 34, 33, 32, 31, 30, 29, 28, 27, 26, 25, 15, 14, 13, 12, 11, 10, 9, 4, 2] : List Nat) → h1581.2.2.2.2 x k = defaultValue (gGG.2.1 12 k) := raw_dp fh1581 dd1524
    have s1589 := (fh1581 2 (by decide)).trans s1552
    have s1590 := (fh1581 4 (by decide)).trans s1553
    have s1591 := (fh1581 9 (by decide)).trans s1554
    have s1592 := (fh1581 10 (by decide)).trans s1555
    have s1593 := (fh1581 11 (by decide)).trans s1556
    have s1594 := (fh1581 12 (by decide)).trans s1557
    have s1595 := (fh1581 13 (by decide)).trans s1558
    have s1596 := (fh1581 14 (by decide)).trans s1559
    have s1597 := (fh1581 15 (by decide)).trans s1560
    have s1598 := (fh1581 25 (by decide)).trans s1561
    have s1599 := (fh1581 26 (by decide)).trans s1562
    have s1600 := (fh1581 27 (by decide)).trans s1563
    have s1601 := (fh1581 28 (by decide)).trans s1564
    have s1602 := (fh1581 29 (by decide)).trans s1565
    have s1603 := (fh1581 30 (by decide)).trans s1566
    have s1604 := (fh1581 31 (by decide)).trans s1567
    have s1605 := (fh1581 32 (by decide)).trans s1568
    have s1606 := (fh1581 33 (by decide)).trans s1569
    have s1607 := (fh1581 34 (by decide)).trans s1570
    have s1608 := (fh1581 35 (by decide)).trans s1571
    have s1609 := (fh1581 36 (by decide)).trans s1572
    have s1610 := (fh1581 37 (by decide)).trans s1573
    have s1611 := (fh1581 38 (by decide)).trans s1574
    have s1612 := (fh1581 40 (by decide)).trans s1575
    have s1613 := (fh1581 49 (by decide)).trans s1576
    have s1614 := (fh1581 54 (by decide)).trans s1577
    clear G1520 dd1524 pr1579 rf1522 rf1523 rw1521 s1552 s1553 s1554 s1555 s1556 s1557 s1558 s1559 s1560 s1561 s1562 s1563 s1564 s1565 s1566 s1567 s1568 s1569 s1570 s1571 s1572 s1573 s1574 s1575 s1576 s1577 sS1580
    refine gz_s 2 (pc' := 220) (L' := [some (.ref x), none, none, none, none]) (S' := [.int (zi 10), .ref x]) rfl ?_
    refine gs_newr 29 rfl (by decide) rfl sS1585.1 (Nat.le_of_lt (Nat.lt_of_le_of_lt (gJ.cell sS1585.1 t1526 rfl).1 (gJ.cell sS1585.1 t1526 rfl).2.1)) (by omega) (by omega) rfl rfl (by show (10 : Int) ≤ _; omega) (by show _ ≤ (10 : Int); omega) (fun _ _ => gos_i (by decide) (by decide)) (fun ty1615 h1616 c1617 g1618 tc1617 lc1617 nc1617 mc1617 ec1617 dc1617 uc1617 => ?_)
    have gac1617 : h.1 ≤ c1617 := by have h8 := G1583.2.1; have h9 := sS1585.2.1; omega
    have uq1619 := uc1617 uq1519 (Or.inr (gNo.sub (by decide +kernel) pr1578))
    have G1620 : gSg [1, 2, 3, 4, 5, 6, 7, 8, 9, 10, 11, 12, 13, 14, 15, 16, 17, 18, 19, 20, 21, 22, 23, 24, 25, 26, 27, 28, 29, 30, 31, 32, 33, 34, 35, 36, 37, 38, 39, 40, 41, 42, 200] [x] [8999, 10999, 31999] ty h ty1615 h1616 := gSg.tr (gSg.ss G1583 sS1585 (by decide)) g1618 (by decide) (by decide) (fun x hx => by cases hx)
    have rw1621 := gSg.raw g1618 rf1586 (fun w => by cases w)
    have rf1622 := (rw1621.2.2.1.trans kh1581)
    have rf1623 := (rw1621.2.2.2.trans rf1587)
    have dd1624 := gSg.rawd (ci := 12) (ps := [55, 54, 49, 40, 38, 37, 36, 35, 34, 33, 32, 31, 30, 29, 28, 27, 26, 25, 15, 14, 13, 12, 11, 10, 9, 4, 2]) g1618 rf1586 (fun w => by cases w) t1525 (by decide) dd1588
    have t1625 : ty1615 x = 200 := rw1621.1.trans t1525
    have t1626 : ty1615 c3 = 2 := gSg.typ g1618 sS1585.1 t1526 rTk_2
    have t1627 : ty1615 c23 = 3 := gSg.typ g1618 sS1585.1 t1527 rTk_3
    have t1628 : ty1615 c46 = 4 := gSg.typ g1618 sS1585.1 t1528 rTk_4
    have t1629 : ty1615 c72 = 5 := gSg.typ g1618 sS1585.1 t1529 rTk_5
    have t1630 : ty1615 c101 = 6 := gSg.typ g1618 sS1585.1 t1530 rTk_6
    have t1631 : ty1615 c133 = 7 := gSg.typ g1618 sS1585.1 t1531 rTk_7
    have t1632 : ty1615 c171 = 8 := gSg.typ g1618 sS1585.1 t1532 rTk_8
    have t1633 : ty1615 c209 = 9 := gSg.typ g1618 sS1585.1 t1533 rTk_9
    have t1634 : ty1615 c250 = 10 := gSg.typ g1618 sS1585.1 t1534 rTk_10
    have t1635 : ty1615 c294 = 11 := gSg.typ g1618 sS1585.1 t1535 rTk_11
    have t1636 : ty1615 c341 = 12 := gSg.typ g1618 sS1585.1 t1536 rTk_12
    have t1637 : ty1615 c391 = 13 := gSg.typ g1618 sS1585.1 t1537 rTk_13
    have t1638 : ty1615 c447 = 14 := gSg.typ g1618 sS1585.1 t1538 rTk_14
    have t1639 : ty1615 c503 = 15 := gSg.typ g1618 sS1585.1 t1539 rTk_15
    have t1640 : ty1615 c562 = 16 := gSg.typ g1618 sS1585.1 t1540 rTk_16
    have t1641 : ty1615 c624 = 17 := gSg.typ g1618 sS1585.1 t1541 rTk_17
    have t1642 : ty1615 c689 = 18 := gSg.typ g1618 sS1585.1 t1542 rTk_18
    have t1643 : ty1615 c760 = 19 := gSg.typ g1618 sS1585.1 t1543 rTk_19
    have t1644 : ty1615 c831 = 20 := gSg.typ g1618 sS1585.1 t1544 rTk_20
    have t1645 : ty1615 c905 = 21 := gSg.typ g1618 sS1585.1 t1545 rTk_21
    have t1646 : ty1615 c982 = 22 := gSg.typ g1618 sS1585.1 t1546 rTk_22
    have t1647 : ty1615 c1065 = 23 := gSg.typ g1618 sS1585.1 t1547 rTk_23
    have t1648 : ty1615 c1148 = 24 := gSg.typ g1618 sS1585.1 t1548 rTk_24
    have t1649 : ty1615 c1234 = 25 := gSg.typ g1618 sS1585.1 t1549 rTk_25
    have t1650 : ty1615 c1323 = 26 := gSg.typ g1618 sS1585.1 t1550 rTk_26
    have t1651 : ty1615 c1420 = 27 := gSg.typ g1618 sS1585.1 t1551 rTk_27
    have t1652 : ty1615 c1517 = 28 := gSg.typ g1618 sS1585.1 tc1517 rTk_28
    have s1653 := gSg.rawat g1618 rf1586 (fun w => by cases w) t1525 (by decide) s1589
    have s1654 := gSg.rawat g1618 rf1586 (fun w => by cases w) t1525 (by decide) s1590
    have s1655 := gSg.rawat g1618 rf1586 (fun w => by cases w) t1525 (by decide) s1591
    have s1656 := gSg.rawat g1618 rf1586 (fun w => by cases w) t1525 (by decide) s1592
    have s1657 := gSg.rawat g1618 rf1586 (fun w => by cases w) t1525 (by decide) s1593
    have s1658 := gSg.rawat g1618 rf1586 (fun w => by cases w) t1525 (by decide) s1594
    have s1659 := gSg.rawat g1618 rf1586 (fun w => by cases w) t1525 (by decide) s1595
    have s1660 := gSg.rawat g1618 rf1586 (fun w => by cases w) t1525 (by decide) s1596
    have s1661 := gSg.rawat g1618 rf1586 (fun w => by cases w) t1525 (by decide) s1597
    have s1662 := gSg.rawat g1618 rf1586 (fun w => by cases w) t1525 (by decide) s1598
    have s1663 := gSg.rawat g1618 rf1586 (fun w => by cases w) t1525 (by decide) s1599
    have s1664 := gSg.rawat g1618 rf1586 (fun w => by cases w) t1525 (by decide) s1600
    have s1665 := gSg.rawat g1618 rf1586 (fun w => by cases w) t1525 (by decide) s1601
    have s1666 := gSg.rawat g1618 rf1586 (fun w => by cases w) t1525 (by decide) s1602
    have s1667 := gSg.rawat g1618 rf1586 (fun w => by cases w) t1525 (by decide) s1603
    have s1668 := gSg.rawat g1618 rf1586 (fun w => by cases w) t1525 (by decide) s1604
    have s1669 := gSg.rawat g1618 rf1586 (fun w => by cases w) t1525 (by decide) s1605
    have s1670 := gSg.rawat g1618 rf1586 (fun w => by cases w) t1525 (by decide) s1606
    have s1671 := gSg.rawat g1618 rf1586 (fun w => by cases w) t1525 (by decide) s1607
    have s1672 := gSg.rawat g1618 rf1586 (fun w => by cases w) t1525 (by decide) s1608
    have s1673 := gSg.rawat g1618 rf1586 (fun w => by cases w) t1525 (by decide) s1609
    have s1674 := gSg.rawat g1618 rf1586 (fun w => by cases w) t1525 (by decide) s1610
    have s1675 := gSg.rawat g1618 rf1586 (fun w => by cases w) t1525 (by decide) s1611
    have s1676 := gSg.rawat g1618 rf1586 (fun w => by cases w) t1525 (by decide) s1612
    have s1677 := gSg.rawat g1618 rf1586 (fun w => by cases w) t1525 (by decide) s1613
    have s1678 := gSg.rawat g1618 rf1586 (fun w => by cases w) t1525 (by decide) s1614
    have s1679 := gSg.rawat g1618 rf1586 (fun w => by cases w) t1525 (by decide) eh1581
    have pr1680 : gNo [1, 30, 31, 32, 33, 34, 35, 36, 37, 38, 39, 40, 41, 42] ty1615 := gNo.gr g1618 (by decide +kernel) (gNo.sub (by decide +kernel) pr1578)
    have pr1681 := gOyB.gr g1618 sS1585.1 rfl (by decide) (by decide) pr1584
    have sS1682 : gSs rT 1027 ty1615 [8999, 10999, 31999] h1616 h1616 := gSs.rf g1618.1
    clear G1583 dd1588 pr1578 pr1584 rf1586 rf1587 s1589 s1590 s1591 s1592 s1593 s1594 s1595 s1596 s1597 s1598 s1599 s1600 s1601 s1602 s1603 s1604 s1605 s1606 s1607 s1608 s1609 s1610 s1611 s1612 s1613 s1614 sS1585 t1525 t1526 t1527 t1528 t1529 t1530 t1531 t1532 t1533 t1534 t1535 t1536 t1537 t1538 t1539 t1540 t1541 t1542 t1543 t1544 t1545 t1546 t1547 t1548 t1549 t1550 t1551 uq1519
    refine gs_rput rfl (by decide) rfl sS1682.1 t1625 nx rw1621.2.1 rf1622 rfl (Or.inr rfl) (fun h1683 g1684 nh1683 mh1683 kh1683 zh1683 eh1683 fh1683 => ?_)
    have G1685 : gSg [1, 2, 3, 4, 5, 6, 7, 8, 9, 10, 11, 12, 13, 14, 15, 16, 17, 18, 19, 20, 21, 22, 23, 24, 25, 26, 27, 28, 29, 30, 31, 32, 33, 34, 35, 36, 37, 38, 39, 40, 41, 42, 200] [x] [8999, 10999, 31999] ty h ty1615 h1683 := gSg.tr (gSg.ss G1620 sS1682 (by decide)) g1684 (by decide) (by decide) (fun x hx => Or.inr hx)
    have pr1686 := gOyB.gr g1684 sS1682.1 rfl (by decide) (by decide) pr1681
    have sS1687 : gSs rT 1027 ty1615 [8999, 10999, 31999] h1683 h1683 := gSs.rf g1684.1
    have rf1688 := Nat.lt_of_lt_of_eq rw1621.2.1 nh1683.symm
    have rf1689 := zh1683.trans rf1623
    have dd1690 : ∀ k, ¬ k ∈ ([56, 55, 54, 49, 40, 38, 37, 36, 35, 34, 33, 32, 31, 30, 29, 28, 27, 26, 25, 15, 14, 13, 12, 11, 10, 9, 4, 2] : List Nat) → h1683.2.2.2.2 x k = defaultValue (gGG.2.1 12 k) := raw_dp fh1683 dd1624
    have s1691 := (fh1683 2 (by decide)).trans s1653
    have s1692 := (fh1683 4 (by decide)).trans s1654
    have s1693 := (fh1683 9 (by decide)).trans s1655
    have s1694 := (fh1683 10 (by decide)).trans s1656
    have s1695 := (fh1683 11 (by decide)).trans s1657
    have s1696 := (fh1683 12 (by decide)).trans s1658
    have s1697 := (fh1683 13 (by decide)).trans s1659
    have s1698 := (fh1683 14 (by decide)).trans s1660
    have s1699 := (fh1683 15 (by decide)).trans s1661
    have s1700 := (fh1683 25 (by decide)).trans s1662
    have s1701 := (fh1683 26 (by decide)).trans s1663
    have s1702 := (fh1683 27 (by decide)).trans s1664
    have s1703 := (fh1683 28 (by decide)).trans s1665
    have s1704 := (fh1683 29 (by decide)).trans s1666
    have s1705 := (fh1683 30 (by decide)).trans s1667
    have s1706 := (fh1683 31 (by decide)).trans s1668
    have s1707 := (fh1683 32 (by decide)).trans s1669
    have s1708 := (fh1683 33 (by decide)).trans s1670
    have s1709 := (fh1683 34 (by decide)).trans s1671
    have s1710 := (fh1683 35 (by decide)).trans s1672
    have s1711 := (fh1683 36 (by decide)).trans s1673
    have s1712 := (fh1683 37 (by decide)).trans s1674
    have s1713 := (fh1683 38 (by decide)).trans s1675
    have s1714 := (fh1683 40 (by decide)).trans s1676
    have s1715 := (fh1683 49 (by decide)).trans s1677
    have s1716 := (fh1683 54 (by decide)).trans s1678
    have s1717 := (fh1683 55 (by decide)).trans s1679
    clear G1620 dd1624 pr1681 rf1622 rf1623 rw1621 s1653 s1654 s1655 s1656 s1657 s1658 s1659 s1660 s1661 s1662 s1663 s1664 s1665 s1666 s1667 s1668 s1669 s1670 s1671 s1672 s1673 s1674 s1675 s1676 s1677 s1678 s1679 sS1682
    have lp1718 := cmlp1718 d hJ x nx c3 c23 c46 c72 c101 c133 c171 c209 c250 c294 c341 c391 c447 c503 c562 c624 c689 c760 c831 c905 c982 c1065 c1148 c1234 c1323 c1420 c1517 c1617
    have G3609 : gSg [1, 2, 3, 4, 5, 6, 7, 8, 9, 10, 11, 12, 13, 14, 15, 16, 17, 18, 19, 20, 21, 22, 23, 24, 25, 26, 27, 28, 29, 30, 31, 32, 33, 34, 35, 36, 37, 38, 39, 40, 41, 42, 200] [x] [8999, 10999, 31999] ty h ty1615 h1683 := gSg.ss G1685 sS1687 (by decide)
    exact gz_wk (lp1718 _ ty1615 h1683  (Nat.lt_succ_self _) G3609 uq1619 t1625 t1626 t1627 t1628 t1629 t1630 t1631 t1632 t1633 t1634 t1635 t1636 t1637 t1638 t1639 t1640 t1641 t1642 t1643 t1644 t1645 t1646 t1647 t1648 t1649 t1650 t1651 t1652 tc1617 (by omega) (by omega) s1691 s1692 s1693 s1694 s1695 s1696 s1697 s1698 s1699 s1700 s1701 s1702 s1703 s1704 s1705 s1706 s1707 s1708 s1709 s1710 s1711 s1712 s1713 s1714 s1715 s1716 s1717 eh1683 pr1680 pr1686 rf1688 kh1683 rf1689 dd1690) (gLw.s (gLw.n (gLw.n (gLw.n (gLw.n gLw.z)))))
set_option maxRecDepth 20000 in
set_option maxHeartbeats 4000000 in
theorem cmlp1060 (d : Nat) {ty : Nat → Nat} {h : gH} (hJ : gJ rT 1027 ty h) (x : Nat) (nx : 1027 ≤ x) (c3 c23 c46 c72 c101 c133 c171 c209 c250 c294 c341 c391 c447 c503 c562 c624 c689 c760 c831 c905 c982 : Nat) : ∀ (fu : Nat) (ty1062 : Nat → Nat) (h1061 : gH), ((1 : Int)).toNat < fu → gSg [1, 2, 3, 4, 5, 6, 7, 8, 9, 10, 11, 12, 13, 14, 15, 16, 17, 18, 19, 20, 21, 22, 23, 24, 25, 26, 27, 28, 29, 30, 31, 32, 33, 34, 35, 36, 37, 38, 39, 40, 41, 42, 200] [x] [8999, 10999, 31999] ty h ty1062 h1061 → gUq ty1062 → ty1062 x = 200 → ty1062 c3 = 2 → ty1062 c23 = 3 → ty1062 c46 = 4 → ty1062 c72 = 5 → ty1062 c101 = 6 → ty1062 c133 = 7 → ty1062 c171 = 8 → ty1062 c209 = 9 → ty1062 c250 = 10 → ty1062 c294 = 11 → ty1062 c341 = 12 → ty1062 c391 = 13 → ty1062 c447 = 14 → ty1062 c503 = 15 → ty1062 c562 = 16 → ty1062 c624 = 17 → ty1062 c689 = 18 → ty1062 c760 = 19 → ty1062 c831 = 20 → ty1062 c905 = 21 → ty1062 c982 = 22 → ((h1061.1 : Int) = h.1 + 21) → ((h1061.2.1 : Int) = h.2.1 + 10788) → h1061.2.2.2.2 x 2 = .ref c3 → h1061.2.2.2.2 x 4 = .ref c23 → h1061.2.2.2.2 x 9 = .ref c46 → h1061.2.2.2.2 x 10 = .ref c72 → h1061.2.2.2.2 x 11 = .ref c101 → h1061.2.2.2.2 x 12 = .ref c133 → h1061.2.2.2.2 x 13 = .ref c171 → h1061.2.2.2.2 x 14 = .ref c209 → h1061.2.2.2.2 x 15 = .ref c250 → h1061.2.2.2.2 x 25 = .ref c294 → h1061.2.2.2.2 x 26 = .ref c341 → h1061.2.2.2.2 x 27 = .ref c391 → h1061.2.2.2.2 x 28 = .ref c447 → h1061.2.2.2.2 x 29 = .ref c503 → h1061.2.2.2.2 x 30 = .ref c562 → h1061.2.2.2.2 x 31 = .ref c624 → h1061.2.2.2.2 x 32 = .ref c689 → h1061.2.2.2.2 x 33 = .ref c760 → h1061.2.2.2.2 x 34 = .ref c831 → h1061.2.2.2.2 x 35 = .ref c905 → h1061.2.2.2.2 x 36 = .ref c982 → gNo [1, 23, 24, 25, 26, 27, 28, 29, 30, 31, 32, 33, 34, 35, 36, 37, 38, 39, 40, 41, 42] ty1062 → x < h1061.1 → h1061.2.2.1 x = some (.inr 12) → h1061.2.2.2.1 x = 0 → (∀ k, ¬ k ∈ ([36, 35, 34, 33, 32, 31, 30, 29, 28, 27, 26, 25, 15, 14, 13, 12, 11, 10, 9, 4, 2] : List Nat) → h1061.2.2.2.2 x k = defaultValue (gGG.2.1 12 k)) → gz gPP gGG gcn (d + 1) gt130 167 [some (.ref x), none, none, none, none] [] h1061 (fun q _ => ∃ ty9 : Nat → Nat, gSg [1, 2, 3, 4, 5, 6, 7, 8, 9, 10, 11, 12, 13, 14, 15, 16, 17, 18, 19, 20, 21, 22, 23, 24, 25, 26, 27, 28, 29, 30, 31, 32, 33, 34, 35, 36, 37, 38, 39, 40, 41, 42, 200] [x] [8999, 10999, 31999] ty h ty9 q.2.2 ∧ ∃ ip n1 cw ch iv1 : Int, ty9 x = 1 ∧ gfin gt130 q.1 q.2.1 = some none ∧ q.2.2.2.2.2.2 x 16 = .int (zi ip) ∧ 0 ≤ ip ∧ ip ≤ 1 ∧ q.2.2.2.2.2.2 x 53 = .int (zi n1) ∧ 0 ≤ n1 ∧ n1 ≤ 10 ∧ q.2.2.2.2.2.2 x 50 = .int (zi cw) ∧ 0 ≤ cw ∧ cw ≤ 32 ∧ q.2.2.2.2.2.2 x 51 = .int (zi ch) ∧ 0 ≤ ch ∧ ch ≤ 32 ∧ q.2.2.2.2.2.2 x 52 = .int (zi iv1) ∧ 0 ≤ iv1 ∧ iv1 ≤ 100 ∧ (ip = 0) ∧ (n1 = 0) ∧ (cw = 0) ∧ (ch = 0) ∧ (iv1 = 0) ∧ ((q.2.2.1 : Int) = h.1 + 41) ∧ ((q.2.2.2.1 : Int) = h.2.1 + 88652) ∧ (gTs ty9 0 q.2.2) ∧ (gOyB ty9 26 0 1024 q.2.2) ∧ gUq ty9) := by
  intro fu
  induction fu with
  | zero => intro ty1062 h1061  hm; exact absurd hm (Nat.not_lt_zero _)
  | succ fu ihlp1060 =>
    intro ty1062 h1061  lp1060m lp1060G lp1060u lp1060c0 lp1060c1 lp1060c2 lp1060c3 lp1060c4 lp1060c5 lp1060c6 lp1060c7 lp1060c8 lp1060c9 lp1060c10 lp1060c11 lp1060c12 lp1060c13 lp1060c14 lp1060c15 lp1060c16 lp1060c17 lp1060c18 lp1060c19 lp1060c20 lp1060c21 lp1060f0 lp1060f1 lp1060k0 lp1060k1 lp1060k2 lp1060k3 lp1060k4 lp1060k5 lp1060k6 lp1060k7 lp1060k8 lp1060k9 lp1060k10 lp1060k11 lp1060k12 lp1060k13 lp1060k14 lp1060k15 lp1060k16 lp1060k17 lp1060k18 lp1060k19 lp1060k20 lp1060k21 lp1060w0 lp1060w1 lp1060w2 lp1060w3
    have sh1061 : gSs rT 1027 ty1062 [8999, 10999, 31999] h1061 h1061 := gSs.rf lp1060G.1
    refine gz_s 2 (pc' := 171) (L' := [some (.ref x), none, none, none, none]) (S' := [.int (zi 12288), .ref x]) rfl ?_
    refine gs_newr 23 rfl (by decide) rfl sh1061.1 (Nat.le_of_lt (Nat.lt_of_le_of_lt (gJ.cell sh1061.1 lp1060c1 rfl).1 (gJ.cell sh1061.1 lp1060c1 rfl).2.1)) (by omega) (by omega) rfl rfl (by show (12288 : Int) ≤ _; omega) (by show _ ≤ (12288 : Int); omega) (fun _ _ => gos_i (by decide) (by decide)) (fun ty1063 h1064 c1065 g1066 tc1065 lc1065 nc1065 mc1065 ec1065 dc1065 uc1065 => ?_)
    have gac1065 : h.1 ≤ c1065 := by have h8 := lp1060G.2.1; have h9 := sh1061.2.1; omega
    have uq1067 := uc1065 lp1060u (Or.inr (gNo.sub (by decide +kernel) lp1060k21))
    have G1068 : gSg [1, 2, 3, 4, 5, 6, 7, 8, 9, 10, 11, 12, 13, 14, 15, 16, 17, 18, 19, 20, 21, 22, 23, 24, 25, 26, 27, 28, 29, 30, 31, 32, 33, 34, 35, 36, 37, 38, 39, 40, 41, 42, 200] [x] [8999, 10999, 31999] ty h ty1063 h1064 := gSg.tr (gSg.ss lp1060G sh1061 (by decide)) g1066 (by decide) (by decide) (fun x hx => by cases hx)
    have rw1069 := gSg.raw g1066 lp1060w0 (fun w => by cases w)
    have rf1070 := (rw1069.2.2.1.trans lp1060w1)
    have rf1071 := (rw1069.2.2.2.trans lp1060w2)
    have dd1072 := gSg.rawd (ci := 12) (ps := [36, 35, 34, 33, 32, 31, 30, 29, 28, 27, 26, 25, 15, 14, 13, 12, 11, 10, 9, 4, 2]) g1066 lp1060w0 (fun w => by cases w) lp1060c0 (by decide) lp1060w3
    have t1073 : ty1063 x = 200 := rw1069.1.trans lp1060c0
    have t1074 : ty1063 c3 = 2 := gSg.typ g1066 sh1061.1 lp1060c1 rTk_2
    have t1075 : ty1063 c23 = 3 := gSg.typ g1066 sh1061.1 lp1060c2 rTk_3
    have t1076 : ty1063 c46 = 4 := gSg.typ g1066 sh1061.1 lp1060c3 rTk_4
    have t1077 : ty1063 c72 = 5 := gSg.typ g1066 sh1061.1 lp1060c4 rTk_5
    have t1078 : ty1063 c101 = 6 := gSg.typ g1066 sh1061.1 lp1060c5 rTk_6
    have t1079 : ty1063 c133 = 7 := gSg.typ g1066 sh1061.1 lp1060c6 rTk_7
    have t1080 : ty1063 c171 = 8 := gSg.typ g1066 sh1061.1 lp1060c7 rTk_8
    have t1081 : ty1063 c209 = 9 := gSg.typ g1066 sh1061.1 lp1060c8 rTk_9
    have t1082 : ty1063 c250 = 10 := gSg.typ g1066 sh1061.1 lp1060c9 rTk_10
    have t1083 : ty1063 c294 = 11 := gSg.typ g1066 sh1061.1 lp1060c10 rTk_11
    have t1084 : ty1063 c341 = 12 := gSg.typ g1066 sh1061.1 lp1060c11 rTk_12
    have t1085 : ty1063 c391 = 13 := gSg.typ g1066 sh1061.1 lp1060c12 rTk_13
    have t1086 : ty1063 c447 = 14 := gSg.typ g1066 sh1061.1 lp1060c13 rTk_14
    have t1087 : ty1063 c503 = 15 := gSg.typ g1066 sh1061.1 lp1060c14 rTk_15
    have t1088 : ty1063 c562 = 16 := gSg.typ g1066 sh1061.1 lp1060c15 rTk_16
    have t1089 : ty1063 c624 = 17 := gSg.typ g1066 sh1061.1 lp1060c16 rTk_17
    have t1090 : ty1063 c689 = 18 := gSg.typ g1066 sh1061.1 lp1060c17 rTk_18
    have t1091 : ty1063 c760 = 19 := gSg.typ g1066 sh1061.1 lp1060c18 rTk_19
    have t1092 : ty1063 c831 = 20 := gSg.typ g1066 sh1061.1 lp1060c19 rTk_20
    have t1093 : ty1063 c905 = 21 := gSg.typ g1066 sh1061.1 lp1060c20 rTk_21
    have t1094 : ty1063 c982 = 22 := gSg.typ g1066 sh1061.1 lp1060c21 rTk_22
    have s1095 := gSg.rawat g1066 lp1060w0 (fun w => by cases w) lp1060c0 (by decide) lp1060k0
    have s1096 := gSg.rawat g1066 lp1060w0 (fun w => by cases w) lp1060c0 (by decide) lp1060k1
    have s1097 := gSg.rawat g1066 lp1060w0 (fun w => by cases w) lp1060c0 (by decide) lp1060k2
    have s1098 := gSg.rawat g1066 lp1060w0 (fun w => by cases w) lp1060c0 (by decide) lp1060k3
    have s1099 := gSg.rawat g1066 lp1060w0 (fun w => by cases w) lp1060c0 (by decide) lp1060k4
    have s1100 := gSg.rawat g1066 lp1060w0 (fun w => by cases w) lp1060c0 (by decide) lp1060k5
    have s1101 := gSg.rawat g1066 lp1060w0 (fun w => by cases w) lp1060c0 (by decide) lp1060k6
    have s1102 := gSg.rawat g1066 lp1060w0 (fun w => by cases w) lp1060c0 (by decide) lp1060k7
    have s1103 := gSg.rawat g1066 lp1060w0 (fun w => by cases w) lp1060c0 (by decide) lp1060k8
    have s1104 := gSg.rawat g1066 lp1060w0 (fun w => by cases w) lp1060c0 (by decide) lp1060k9
    have s1105 := gSg.rawat g1066 lp1060w0 (fun w => by cases w) lp1060c0 (by decide) lp1060k10
    have s1106 := gSg.rawat g1066 lp1060w0 (fun w => by cases w) lp1060c0 (by decide) lp1060k11
    have s1107 := gSg.rawat g1066 lp1060w0 (fun w => by cases w) lp1060c0 (by decide) lp1060k12
    have s1108 := gSg.rawat g1066 lp1060w0 (fun w => by cases w) lp1060c0 (by decide) lp1060k13
    have s1109 := gSg.rawat g1066 lp1060w0 (fun w => by cases w) lp1060c0 (by decide) lp1060k14
    have s1110 := gSg.rawat g1066 lp1060w0 (fun w => by cases w) lp1060c0 (by decide) lp1060k15
    have s1111 := gSg.rawat g1066 lp1060w0 (fun w => by cases w) lp1060c0 (by decide) lp1060k16
    have s1112 := gSg.rawat g1066 lp1060w0 (fun w => by cases w) lp1060c0 (by decide) lp1060k17
    have s1113 := gSg.rawat g1066 lp1060w0 (fun w => by cases w) lp1060c0 (by decide) lp1060k18
    have s1114 := gSg.rawat g1066 lp1060w0 (fun w => by cases w) lp1060c0 (by decide) lp1060k19
    have s1115 := gSg.rawat g1066 lp1060w0 (fun w => by cases w) lp1060c0 (by decide) lp1060k20
    have pr1116 : gNo [1, 24, 25, 26, 27, 28, 29, 30, 31, 32, 33, 34, 35, 36, 37, 38, 39, 40, 41, 42] ty1063 := gNo.gr g1066 (by decide +kernel) (gNo.sub (by decide +kernel) lp1060k21)
    have sS1117 : gSs rT 1027 ty1063 [8999, 10999, 31999] h1064 h1064 := gSs.rf g1066.1
    refine gs_rput rfl (by decide) rfl sS1117.1 t1073 nx rw1069.2.1 rf1070 rfl (Or.inr rfl) (fun h1118 g1119 nh1118 mh1118 kh1118 zh1118 eh1118 fh1118 => ?_)
    have G1120 : gSg [1, 2, 3, 4, 5, 6, 7, 8, 9, 10, 11, 12, 13, 14, 15, 16, 17, 18, 19, 20, 21, 22, 23, 24, 25, 26, 27, 28, 29, 30, 31, 32, 33, 34, 35, 36, 37, 38, 39, 40, 41, 42, 200] [x] [8999, 10999, 31999] ty h ty1063 h1118 := gSg.tr (gSg.ss G1068 sS1117 (by decide)) g1119 (by decide) (by decide) (fun x hx => Or.inr hx)
    have sS1121 : gSs rT 1027 ty1063 [8999, 10999, 31999] h1118 h1118 := gSs.rf g1119.1
    have rf1122 := Nat.lt_of_lt_of_eq rw1069.2.1 nh1118.symm
    have rf1123 := zh1118.trans rf1071
    have dd1124 : ∀ k, ¬ k ∈ ([37, 36, 35, 34, 33, 32, 31, 30, 29, 28, 27, 26, 25, 15, 14, 13, 12, 11, 10, 9, 4, 2] : List Nat) → h1118.2.2.2.2 x k = defaultValue (gGG.2.1 12 k) := raw_dp fh1118 dd1072
    have s1125 := (fh1118 2 (by decide)).trans s1095
    have s1126 := (fh1118 4 (by decide)).trans s1096
    have s1127 := (fh1118 9 (by decide)).trans s1097
    have s1128 := (fh1118 10 (by decide)).trans s1098
    have s1129 := (fh1118 11 (by decide)).trans s1099
    have s1130 := (fh1118 12 (by decide)).trans s1100
    have s1131 := (fh1118 13 (by decide)).trans s1101
    have s1132 := (fh1118 14 (by decide)).trans s1102
    have s1133 := (fh1118 15 (by decide)).trans s1103
    have s1134 := (fh1118 25 (by decide)).trans s1104
    have s1135 := (fh1118 26 (by decide)).trans s1105
    have s1136 := (fh1118 27 (by decide)).trans s1106
    have s1137 := (fh1118 28 (by decide)).trans s1107
    have s1138 := (fh1118 29 (by decide)).trans s1108
    have s1139 := (fh1118 30 (by decide)).trans s1109
    have s1140 := (fh1118 31 (by decide)).trans s1110
    have s1141 := (fh1118 32 (by decide)).trans s1111
    have s1142 := (fh1118 33 (by decide)).trans s1112
    have s1143 := (fh1118 34 (by decide)).trans s1113
    have s1144 := (fh1118 35 (by decide)).trans s1114
    have s1145 := (fh1118 36 (by decide)).trans s1115
    clear G1068 dd1072 rf1070 rf1071 rw1069 s1095 s1096 s1097 s1098 s1099 s1100 s1101 s1102 s1103 s1104 s1105 s1106 s1107 s1108 s1109 s1110 s1111 s1112 s1113 s1114 s1115 sS1117
    refine gz_s 2 (pc' := 180) (L' := [some (.ref x), none, none, none, none]) (S' := [.int (zi 192), .ref x]) rfl ?_
    refine gs_newr 24 rfl (by decide) rfl sS1121.1 (Nat.le_of_lt (Nat.lt_of_le_of_lt (gJ.cell sS1121.1 t1074 rfl).1 (gJ.cell sS1121.1 t1074 rfl).2.1)) (by omega) (by omega) rfl rfl (by show (192 : Int) ≤ _; omega) (by show _ ≤ (192 : Int); omega) (fun _ _ => gos_i (by decide) (by decide)) (fun ty1146 h1147 c1148 g1149 tc1148 lc1148 nc1148 mc1148 ec1148 dc1148 uc1148 => ?_)
    have gac1148 : h.1 ≤ c1148 := by have h8 := G1120.2.1; have h9 := sS1121.2.1; omega
    have uq1150 := uc1148 uq1067 (Or.inr (gNo.sub (by decide +kernel) pr1116))
    have G1151 : gSg [1, 2, 3, 4, 5, 6, 7, 8, 9, 10, 11, 12, 13, 14, 15, 16, 17, 18, 19, 20, 21, 22, 23, 24, 25, 26, 27, 28, 29, 30, 31, 32, 33, 34, 35, 36, 37, 38, 39, 40, 41, 42, 200] [x] [8999, 10999, 31999] ty h ty1146 h1147 := gSg.tr (gSg.ss G1120 sS1121 (by decide)) g1149 (by decide) (by decide) (fun x hx => by cases hx)
    have rw1152 := gSg.raw g1149 rf1122 (fun w => by cases w)
    have rf1153 := (rw1152.2.2.1.trans kh1118)
    have rf1154 := (rw1152.2.2.2.trans rf1123)
    have dd1155 := gSg.rawd (ci := 12) (ps := [37, 36, 35, 34, 33, 32, 31, 30, 29, 28, 27, 26, 25, 15, 14, 13, 12, 11, 10, 9, 4, 2]) g1149 rf1122 (fun w => by cases w) t1073 (by decide) dd1124
    have t1156 : ty1146 x = 200 := rw1152.1.trans t1073
    have t1157 : ty1146 c3 = 2 := gSg.typ g1149 sS1121.1 t1074 rTk_2
    have t1158 : ty1146 c23 = 3 := gSg.typ g1149 sS1121.1 t1075 rTk_3
    have t1159 : ty1146 c46 = 4 := gSg.typ g1149 sS1121.1 t1076 rTk_4
    have t1160 : ty1146 c72 = 5 := gSg.typ g1149 sS1121.1 t1077 rTk_5
    have t1161 : ty1146 c101 = 6 := gSg.typ g1149 sS1121.1 t1078 rTk_6
    have t1162 : ty1146 c133 = 7 := gSg.typ g1149 sS1121.1 t1079 rTk_7
    have t1163 : ty1146 c171 = 8 := gSg.typ g1149 sS1121.1 t1080 rTk_8
    have t1164 : ty1146 c209 = 9 := gSg.typ g1149 sS1121.1 t1081 rTk_9
    have t1165 : ty1146 c250 = 10 := gSg.typ g1149 sS1121.1 t1082 rTk_10
    have t1166 : ty1146 c294 = 11 := gSg.typ g1149 sS1121.1 t1083 rTk_11
    have t1167 : ty1146 c341 = 12 := gSg.typ g1149 sS1121.1 t1084 rTk_12
    have t1168 : ty1146 c391 = 13 := gSg.typ g1149 sS1121.1 t1085 rTk_13
    have t1169 : ty1146 c447 = 14 := gSg.typ g1149 sS1121.1 t1086 rTk_14
    have t1170 : ty1146 c503 = 15 := gSg.typ g1149 sS1121.1 t1087 rTk_15
    have t1171 : ty1146 c562 = 16 := gSg.typ g1149 sS1121.1 t1088 rTk_16
    have t1172 : ty1146 c624 = 17 := gSg.typ g1149 sS1121.1 t1089 rTk_17
    have t1173 : ty1146 c689 = 18 := gSg.typ g1149 sS1121.1 t1090 rTk_18
    have t1174 : ty1146 c760 = 19 := gSg.typ g1149 sS1121.1 t1091 rTk_19
    have t1175 : ty1146 c831 = 20 := gSg.typ g1149 sS1121.1 t1092 rTk_20
    have t1176 : ty1146 c905 = 21 := gSg.typ g1149 sS1121.1 t1093 rTk_21
    have t1177 : ty1146 c982 = 22 := gSg.typ g1149 sS1121.1 t1094 rTk_22
    have t1178 : ty1146 c1065 = 23 := gSg.typ g1149 sS1121.1 tc1065 rTk_23
    have s1179 := gSg.rawat g1149 rf1122 (fun w => by cases w) t1073 (by decide) s1125
    have s1180 := gSg.rawat g1149 rf1122 (fun w => by cases w) t1073 (by decide) s1126
    have s1181 := gSg.rawat g1149 rf1122 (fun w => by cases w) t1073 (by decide) s1127
    have s1182 := gSg.rawat g1149 rf1122 (fun w => by cases w) t1073 (by decide) s1128
    have s1183 := gSg.rawat g1149 rf1122 (fun w => by cases w) t1073 (by decide) s1129
    have s1184 := gSg.rawat g1149 rf1122 (fun w => by cases w) t1073 (by decide) s1130
    have s1185 := gSg.rawat g1149 rf1122 (fun w => by cases w) t1073 (by decide) s1131
    have s1186 := gSg.rawat g1149 rf1122 (fun w => by cases w) t1073 (by decide) s1132
    have s1187 := gSg.rawat g1149 rf1122 (fun w => by cases w) t1073 (by decide) s1133
    have s1188 := gSg.rawat g1149 rf1122 (fun w => by cases w) t1073 (by decide) s1134
    have s1189 := gSg.rawat g1149 rf1122 (fun w => by cases w) t1073 (by decide) s1135
    have s1190 := gSg.rawat g1149 rf1122 (fun w => by cases w) t1073 (by decide) s1136
    have s1191 := gSg.rawat g1149 rf1122 (fun w => by cases w) t1073 (by decide) s1137
    have s1192 := gSg.rawat g1149 rf1122 (fun w => by cases w) t1073 (by decide) s1138
    have s1193 := gSg.rawat g1149 rf1122 (fun w => by cases w) t1073 (by decide) s1139
    have s1194 := gSg.rawat g1149 rf1122 (fun w => by cases w) t1073 (by decide) s1140
    have s1195 := gSg.rawat g1149 rf1122 (fun w => by cases w) t1073 (by decide) s1141
    have s1196 := gSg.rawat g1149 rf1122 (fun w => by cases w) t1073 (by decide) s1142
    have s1197 := gSg.rawat g1149 rf1122 (fun w => by cases w) t1073 (by decide) s1143
    have s1198 := gSg.rawat g1149 rf1122 (fun w => by cases w) t1073 (by decide) s1144
    have s1199 := gSg.rawat g1149 rf1122 (fun w => by cases w) t1073 (by decide) s1145
    have s1200 := gSg.rawat g1149 rf1122 (fun w => by cases w) t1073 (by decide) eh1118
    have pr1201 : gNo [1, 25, 26, 27, 28, 29, 30, 31, 32, 33, 34, 35, 36, 37, 38, 39, 40, 41, 42] ty1146 := gNo.gr g1149 (by decide +kernel) (gNo.sub (by decide +kernel) pr1116)
    have sS1202 : gSs rT 1027 ty1146 [8999, 10999, 31999] h1147 h1147 := gSs.rf g1149.1
    clear G1120 dd1124 pr1116 rf1122 rf1123 s1125 s1126 s1127 s1128 s1129 s1130 s1131 s1132 s1133 s1134 s1135 s1136 s1137 s1138 s1139 s1140 s1141 s1142 s1143 s1144 s1145 sS1121 t1073 t1074 t1075 t1076 t1077 t1078 t1079 t1080 t1081 t1082 t1083 t1084 t1085 t1086 t1087 t1088 t1089 t1090 t1091 t1092 t1093 t1094 uq1067
    refine gs_rput rfl (by decide) rfl sS1202.1 t1156 nx rw1152.2.1 rf1153 rfl (Or.inr rfl) (fun h1203 g1204 nh1203 mh1203 kh1203 zh1203 eh1203 fh1203 => ?_)
    have G1205 : gSg [1, 2, 3, 4, 5, 6, 7, 8, 9, 10, 11, 12, 13, 14, 15, 16, 17, 18, 19, 20, 21, 22, 23, 24, 25, 26, 27, 28, 29, 30, 31, 32, 33, 34, 35, 36, 37, 38, 39, 40, 41, 42, 200] [x] [8999, 10999, 31999] ty h ty1146 h1203 := gSg.tr (gSg.ss G1151 sS1202 (by decide)) g1204 (by decide) (by decide) (fun x hx => Or.inr hx)
    have sS1206 : gSs rT 1027 ty1146 [8999, 10999, 31999] h1203 h1203 := gSs.rf g1204.1
    have rf1207 := Nat.lt_of_lt_of_eq rw1152.2.1 nh1203.symm
    have rf1208 := zh1203.trans rf1154
    have dd1209 : ∀ k, ¬ k ∈ ([38, 37, 36, 35, 34, 33, 32, 31, 30, 29, 28, 27, 26, 25, 15, 14, 13, 12, 11, 10, 9, 4, 2] : List Nat) → h1203.2.2.2.2 x k = defaultValue (gGG.2.1 12 k) := raw_dp fh1203 dd1155
    have s1210 := (fh1203 2 (by decide)).trans s1179
    have s1211 := (fh1203 4 (by decide)).trans s1180
    have s1212 := (fh1203 9 (by decide)).trans s1181
    have s1213 := (fh1203 10 (by decide)).trans s1182
    have s1214 := (fh1203 11 (by decide)).trans s1183
    have s1215 := (fh1203 12 (by decide)).trans s1184
    have s1216 := (fh1203 13 (by decide)).trans s1185
    have s1217 := (fh1203 14 (by decide)).trans s1186
    have s1218 := (fh1203 15 (by decide)).trans s1187
    have s1219 := (fh1203 25 (by decide)).trans s1188
    have s1220 := (fh1203 26 (by decide)).trans s1189
    have s1221 := (fh1203 27 (by decide)).trans s1190
    have s1222 := (fh1203 28 (by decide)).trans s1191
    have s1223 := (fh1203 29 (by decide)).trans s1192
    have s1224 := (fh1203 30 (by decide)).trans s1193
    have s1225 := (fh1203 31 (by decide)).trans s1194
    have s1226 := (fh1203 32 (by decide)).trans s1195
    have s1227 := (fh1203 33 (by decide)).trans s1196
    have s1228 := (fh1203 34 (by decide)).trans s1197
    have s1229 := (fh1203 35 (by decide)).trans s1198
    have s1230 := (fh1203 36 (by decide)).trans s1199
    have s1231 := (fh1203 37 (by decide)).trans s1200
    clear G1151 dd1155 rf1153 rf1154 rw1152 s1179 s1180 s1181 s1182 s1183 s1184 s1185 s1186 s1187 s1188 s1189 s1190 s1191 s1192 s1193 s1194 s1195 s1196 s1197 s1198 s1199 s1200 sS1202
    refine gz_s 2 (pc' := 187) (L' := [some (.ref x), none, none, none, none]) (S' := [.int (zi 3), .ref x]) rfl ?_
    refine gs_newr 25 rfl (by decide) rfl sS1206.1 (Nat.le_of_lt (Nat.lt_of_le_of_lt (gJ.cell sS1206.1 t1157 rfl).1 (gJ.cell sS1206.1 t1157 rfl).2.1)) (by omega) (by omega) rfl rfl (by show (3 : Int) ≤ _; omega) (by show _ ≤ (3 : Int); omega) (fun _ _ => gos_i (by decide) (by decide)) (fun ty1232 h1233 c1234 g1235 tc1234 lc1234 nc1234 mc1234 ec1234 dc1234 uc1234 => ?_)
    have gac1234 : h.1 ≤ c1234 := by have h8 := G1205.2.1; have h9 := sS1206.2.1; omega
    have uq1236 := uc1234 uq1150 (Or.inr (gNo.sub (by decide +kernel) pr1201))
    have G1237 : gSg [1, 2, 3, 4, 5, 6, 7, 8, 9, 10, 11, 12, 13, 14, 15, 16, 17, 18, 19, 20, 21, 22, 23, 24, 25, 26, 27, 28, 29, 30, 31, 32, 33, 34, 35, 36, 37, 38, 39, 40, 41, 42, 200] [x] [8999, 10999, 31999] ty h ty1232 h1233 := gSg.tr (gSg.ss G1205 sS1206 (by decide)) g1235 (by decide) (by decide) (fun x hx => by cases hx)
    have rw1238 := gSg.raw g1235 rf1207 (fun w => by cases w)
    have rf1239 := (rw1238.2.2.1.trans kh1203)
    have rf1240 := (rw1238.2.2.2.trans rf1208)
    have dd1241 := gSg.rawd (ci := 12) (ps := [38, 37, 36, 35, 34, 33, 32, 31, 30, 29, 28, 27, 26, 25, 15, 14, 13, 12, 11, 10, 9, 4, 2]) g1235 rf1207 (fun w => by cases w) t1156 (by decide) dd1209
    have t1242 : ty1232 x = 200 := rw1238.1.trans t1156
    have t1243 : ty1232 c3 = 2 := gSg.typ g1235 sS1206.1 t1157 rTk_2
    have t1244 : ty1232 c23 = 3 := gSg.typ g1235 sS1206.1 t1158 rTk_3
    have t1245 : ty1232 c46 = 4 := gSg.typ g1235 sS1206.1 t1159 rTk_4
    have t1246 : ty1232 c72 = 5 := gSg.typ g1235 sS1206.1 t1160 rTk_5
    have t1247 : ty1232 c101 = 6 := gSg.typ g1235 sS1206.1 t1161 rTk_6
    have t1248 : ty1232 c133 = 7 := gSg.typ g1235 sS1206.1 t1162 rTk_7
    have t1249 : ty1232 c171 = 8 := gSg.typ g1235 sS1206.1 t1163 rTk_8
    have t1250 : ty1232 c209 = 9 := gSg.typ g1235 sS1206.1 t1164 rTk_9
    have t1251 : ty1232 c250 = 10 := gSg.typ g1235 sS1206.1 t1165 rTk_10
    have t1252 : ty1232 c294 = 11 := gSg.typ g1235 sS1206.1 t1166 rTk_11
    have t1253 : ty1232 c341 = 12 := gSg.typ g1235 sS1206.1 t1167 rTk_12
    have t1254 : ty1232 c391 = 13 := gSg.typ g1235 sS1206.1 t1168 rTk_13
    have t1255 : ty1232 c447 = 14 := gSg.typ g1235 sS1206.1 t1169 rTk_14
    have t1256 : ty1232 c503 = 15 := gSg.typ g1235 sS1206.1 t1170 rTk_15
    have t1257 : ty1232 c562 = 16 := gSg.typ g1235 sS1206.1 t1171 rTk_16
    have t1258 : ty1232 c624 = 17 := gSg.typ g1235 sS1206.1 t1172 rTk_17
    have t1259 : ty1232 c689 = 18 := gSg.typ g1235 sS1206.1 t1173 rTk_18
    have t1260 : ty1232 c760 = 19 := gSg.typ g1235 sS1206.1 t1174 rTk_19
    have t1261 : ty1232 c831 = 20 := gSg.typ g1235 sS1206.1 t1175 rTk_20
    have t1262 : ty1232 c905 = 21 := gSg.typ g1235 sS1206.1 t1176 rTk_21
    have t1263 : ty1232 c982 = 22 := gSg.typ g1235 sS1206.1 t1177 rTk_22
    have t1264 : ty1232 c1065 = 23 := gSg.typ g1235 sS1206.1 t1178 rTk_23
    have t1265 : ty1232 c1148 = 24 := gSg.typ g1235 sS1206.1 tc1148 rTk_24
    have s1266 := gSg.rawat g1235 rf1207 (fun w => by cases w) t1156 (by decide) s1210
    have s1267 := gSg.rawat g1235 rf1207 (fun w => by cases w) t1156 (by decide) s1211
    have s1268 := gSg.rawat g1235 rf1207 (fun w => by cases w) t1156 (by decide) s1212
    have s1269 := gSg.rawat g1235 rf1207 (fun w => by cases w) t1156 (by decide) s1213
    have s1270 := gSg.rawat g1235 rf1207 (fun w => by cases w) t1156 (by decide) s1214
    have s1271 := gSg.rawat g1235 rf1207 (fun w => by cases w) t1156 (by decide) s1215
    have s1272 := gSg.rawat g1235 rf1207 (fun w => by cases w) t1156 (by decide) s1216
    have s1273 := gSg.rawat g1235 rf1207 (fun w => by cases w) t1156 (by decide) s1217
    have s1274 := gSg.rawat g1235 rf1207 (fun w => by cases w) t1156 (by decide) s1218
    have s1275 := gSg.rawat g1235 rf1207 (fun w => by cases w) t1156 (by decide) s1219
    have s1276 := gSg.rawat g1235 rf1207 (fun w => by cases w) t1156 (by decide) s1220
    have s1277 := gSg.rawat g1235 rf1207 (fun w => by cases w) t1156 (by decide) s1221
    have s1278 := gSg.rawat g1235 rf1207 (fun w => by cases w) t1156 (by decide) s1222
    have s1279 := gSg.rawat g1235 rf1207 (fun w => by cases w) t1156 (by decide) s1223
    have s1280 := gSg.rawat g1235 rf1207 (fun w => by cases w) t1156 (by decide) s1224
    have s1281 := gSg.rawat g1235 rf1207 (fun w => by cases w) t1156 (by decide) s1225
    have s1282 := gSg.rawat g1235 rf1207 (fun w => by cases w) t1156 (by decide) s1226
    have s1283 := gSg.rawat g1235 rf1207 (fun w => by cases w) t1156 (by decide) s1227
    have s1284 := gSg.rawat g1235 rf1207 (fun w => by cases w) t1156 (by decide) s1228
    have s1285 := gSg.rawat g1235 rf1207 (fun w => by cases w) t1156 (by decide) s1229
    have s1286 := gSg.rawat g1235 rf1207 (fun w => by cases w) t1156 (by decide) s1230
    have s1287 := gSg.rawat g1235 rf1207 (fun w => by cases w) t1156 (by decide) s1231
    have s1288 := gSg.rawat g1235 rf1207 (fun w => by cases w) t1156 (by decide) eh1203
    have pr1289 : gNo [1, 26, 27, 28, 29, 30, 31, 32, 33, 34, 35, 36, 37, 38, 39, 40, 41, 42] ty1232 := gNo.gr g1235 (by decide +kernel) (gNo.sub (by decide +kernel) pr1201)
    have sS1290 : gSs rT 1027 ty1232 [8999, 10999, 31999] h1233 h1233 := gSs.rf g1235.1
    clear G1205 dd1209 pr1201 rf1207 rf1208 s1210 s1211 s1212 s1213 s1214 s1215 s1216 s1217 s1218 s1219 s1220 s1221 s1222 s1223 s1224 s1225 s1226 s1227 s1228 s1229 s1230 s1231 sS1206 t1156 t1157 t1158 t1159 t1160 t1161 t1162 t1163 t1164 t1165 t1166 t1167 t1168 t1169 t1170 t1171 t1172 t1173 t1174 t1175 t1176 t1177 t1178 uq1150
    refine gs_rput rfl (by decide) rfl sS1290.1 t1242 nx rw1238.2.1 rf1239 rfl (Or.inr rfl) (fun h1291 g1292 nh1291 mh1291 kh1291 zh1291 eh1291 fh1291 => ?_)
    have G1293 : gSg [1, 2, 3, 4, 5, 6, 7, 8, 9, 10, 11, 12, 13, 14, 15, 16, 17, 18, 19, 20, 21, 22, 23, 24, 25, 26, 27, 28, 29, 30, 31, 32, 33, 34, 35, 36, 37, 38, 39, 40, 41, 42, 200] [x] [8999, 10999, 31999] ty h ty1232 h1291 := gSg.tr (gSg.ss G1237 sS1290 (by decide)) g1292 (by decide) (by decide) (fun x hx => Or.inr hx)
    have sS1294 : gSs rT 1027 ty1232 [8999, 10999, 31999] h1291 h1291 := gSs.rf g1292.1
    have rf1295 := Nat.lt_of_lt_of_eq rw1238.2.1 nh1291.symm
    have rf1296 := zh1291.trans rf1240
    have dd1297 : ∀ k, ¬ k ∈ ([40, 38, 37, 36, 35, 34, 33, 32, 31, 30, 29, 28, 27, 26, 25, 15, 14, 13, 12, 11, 10, 9, 4, 2] : List Nat) → h1291.2.2.2.2 x k = defaultValue (gGG.2.1 12 k) := raw_dp fh1291 dd1241
    have s1298 := (fh1291 2 (by decide)).trans s1266
    have s1299 := (fh1291 4 (by decide)).trans s1267
    have s1300 := (fh1291 9 (by decide)).trans s1268
    have s1301 := (fh1291 10 (by decide)).trans s1269
    have s1302 := (fh1291 11 (by decide)).trans s1270
    have s1303 := (fh1291 12 (by decide)).trans s1271
    have s1304 := (fh1291 13 (by decide)).trans s1272
    have s1305 := (fh1291 14 (by decide)).trans s1273
    have s1306 := (fh1291 15 (by decide)).trans s1274
    have s1307 := (fh1291 25 (by decide)).trans s1275
    have s1308 := (fh1291 26 (by decide)).trans s1276
    have s1309 := (fh1291 27 (by decide)).trans s1277
    have s1310 := (fh1291 28 (by decide)).trans s1278
    have s1311 := (fh1291 29 (by decide)).trans s1279
    have s1312 := (fh1291 30 (by decide)).trans s1280
    have s1313 := (fh1291 31 (by decide)).trans s1281
    have s1314 := (fh1291 32 (by decide)).trans s1282
    have s1315 := (fh1291 33 (by decide)).trans s1283
    have s1316 := (fh1291 34 (by decide)).trans s1284
    have s1317 := (fh1291 35 (by decide)).trans s1285
    have s1318 := (fh1291 36 (by decide)).trans s1286
    have s1319 := (fh1291 37 (by decide)).trans s1287
    have s1320 := (fh1291 38 (by decide)).trans s1288
    clear G1237 dd1241 rf1239 rf1240 rw1238 s1266 s1267 s1268 s1269 s1270 s1271 s1272 s1273 s1274 s1275 s1276 s1277 s1278 s1279 s1280 s1281 s1282 s1283 s1284 s1285 s1286 s1287 s1288 sS1290
    refine gz_s 2 (pc' := 196) (L' := [some (.ref x), none, none, none, none]) (S' := [.int (zi 1024), .ref x]) rfl ?_
    refine gs_newr 26 rfl (by decide) rfl sS1294.1 (Nat.le_of_lt (Nat.lt_of_le_of_lt (gJ.cell sS1294.1 t1243 rfl).1 (gJ.cell sS1294.1 t1243 rfl).2.1)) (by omega) (by omega) rfl rfl (by show (1024 : Int) ≤ _; omega) (by show _ ≤ (1024 : Int); omega) (fun _ _ => gos_i (by decide) (by decide)) (fun ty1321 h1322 c1323 g1324 tc1323 lc1323 nc1323 mc1323 ec1323 dc1323 uc1323 => ?_)
    have gac1323 : h.1 ≤ c1323 := by have h8 := G1293.2.1; have h9 := sS1294.2.1; omega
    have uq1325 := uc1323 uq1236 (Or.inr (gNo.sub (by decide +kernel) pr1289))
    have G1326 : gSg [1, 2, 3, 4, 5, 6, 7, 8, 9, 10, 11, 12, 13, 14, 15, 16, 17, 18, 19, 20, 21, 22, 23, 24, 25, 26, 27, 28, 29, 30, 31, 32, 33, 34, 35, 36, 37, 38, 39, 40, 41, 42, 200] [x] [8999, 10999, 31999] ty h ty1321 h1322 := gSg.tr (gSg.ss G1293 sS1294 (by decide)) g1324 (by decide) (by decide) (fun x hx => by cases hx)
    have rw1327 := gSg.raw g1324 rf1295 (fun w => by cases w)
    have rf1328 := (rw1327.2.2.1.trans kh1291)
    have rf1329 := (rw1327.2.2.2.trans rf1296)
    have dd1330 := gSg.rawd (ci := 12) (ps := [40, 38, 37, 36, 35, 34, 33, 32, 31, 30, 29, 28, 27, 26, 25, 15, 14, 13, 12, 11, 10, 9, 4, 2]) g1324 rf1295 (fun w => by cases w) t1242 (by decide) dd1297
    have t1331 : ty1321 x = 200 := rw1327.1.trans t1242
    have t1332 : ty1321 c3 = 2 := gSg.typ g1324 sS1294.1 t1243 rTk_2
    have t1333 : ty1321 c23 = 3 := gSg.typ g1324 sS1294.1 t1244 rTk_3
    have t1334 : ty1321 c46 = 4 := gSg.typ g1324 sS1294.1 t1245 rTk_4
    have t1335 : ty1321 c72 = 5 := gSg.typ g1324 sS1294.1 t1246 rTk_5
    have t1336 : ty1321 c101 = 6 := gSg.typ g1324 sS1294.1 t1247 rTk_6
    have t1337 : ty1321 c133 = 7 := gSg.typ g1324 sS1294.1 t1248 rTk_7
    have t1338 : ty1321 c171 = 8 := gSg.typ g1324 sS1294.1 t1249 rTk_8
    have t1339 : ty1321 c209 = 9 := gSg.typ g1324 sS1294.1 t1250 rTk_9
    have t1340 : ty1321 c250 = 10 := gSg.typ g1324 sS1294.1 t1251 rTk_10
    have t1341 : ty1321 c294 = 11 := gSg.typ g1324 sS1294.1 t1252 rTk_11
    have t1342 : ty1321 c341 = 12 := gSg.typ g1324 sS1294.1 t1253 rTk_12
    have t1343 : ty1321 c391 = 13 := gSg.typ g1324 sS1294.1 t1254 rTk_13
    have t1344 : ty1321 c447 = 14 := gSg.typ g1324 sS1294.1 t1255 rTk_14
    have t1345 : ty1321 c503 = 15 := gSg.typ g1324 sS1294.1 t1256 rTk_15
    have t1346 : ty1321 c562 = 16 := gSg.typ g1324 sS1294.1 t1257 rTk_16
    have t1347 : ty1321 c624 = 17 := gSg.typ g1324 sS1294.1 t1258 rTk_17
    have t1348 : ty1321 c689 = 18 := gSg.typ g1324 sS1294.1 t1259 rTk_18
    have t1349 : ty1321 c760 = 19 := gSg.typ g1324 sS1294.1 t1260 rTk_19
    have t1350 : ty1321 c831 = 20 := gSg.typ g1324 sS1294.1 t1261 rTk_20
    have t1351 : ty1321 c905 = 21 := gSg.typ g1324 sS1294.1 t1262 rTk_21
    have t1352 : ty1321 c982 = 22 := gSg.typ g1324 sS1294.1 t1263 rTk_22
    have t1353 : ty1321 c1065 = 23 := gSg.typ g1324 sS1294.1 t1264 rTk_23
    have t1354 : ty1321 c1148 = 24 := gSg.typ g1324 sS1294.1 t1265 rTk_24
    have t1355 : ty1321 c1234 = 25 := gSg.typ g1324 sS1294.1 tc1234 rTk_25
    have s1356 := gSg.rawat g1324 rf1295 (fun w => by cases w) t1242 (by decide) s1298
    have s1357 := gSg.rawat g1324 rf1295 (fun w => by cases w) t1242 (by decide) s1299
    have s1358 := gSg.rawat g1324 rf1295 (fun w => by cases w) t1242 (by decide) s1300
    have s1359 := gSg.rawat g1324 rf1295 (fun w => by cases w) t1242 (by decide) s1301
    have s1360 := gSg.rawat g1324 rf1295 (fun w => by cases w) t1242 (by decide) s1302
    have s1361 := gSg.rawat g1324 rf1295 (fun w => by cases w) t1242 (by decide) s1303
    have s1362 := gSg.rawat g1324 rf1295 (fun w => by cases w) t1242 (by decide) s1304
    have s1363 := gSg.rawat g1324 rf1295 (fun w => by cases w) t1242 (by decide) s1305
    have s1364 := gSg.rawat g1324 rf1295 (fun w => by cases w) t1242 (by decide) s1306
    have s1365 := gSg.rawat g1324 rf1295 (fun w => by cases w) t1242 (by decide) s1307
    have s1366 := gSg.rawat g1324 rf1295 (fun w => by cases w) t1242 (by decide) s1308
    have s1367 := gSg.rawat g1324 rf1295 (fun w => by cases w) t1242 (by decide) s1309
    have s1368 := gSg.rawat g1324 rf1295 (fun w => by cases w) t1242 (by decide) s1310
    have s1369 := gSg.rawat g1324 rf1295 (fun w => by cases w) t1242 (by decide) s1311
    have s1370 := gSg.rawat g1324 rf1295 (fun w => by cases w) t1242 (by decide) s1312
    have s1371 := gSg.rawat g1324 rf1295 (fun w => by cases w) t1242 (by decide) s1313
    have s1372 := gSg.rawat g1324 rf1295 (fun w => by cases w) t1242 (by decide) s1314
    have s1373 := gSg.rawat g1324 rf1295 (fun w => by cases w) t1242 (by decide) s1315
    have s1374 := gSg.rawat g1324 rf1295 (fun w => by cases w) t1242 (by decide) s1316
    have s1375 := gSg.rawat g1324 rf1295 (fun w => by cases w) t1242 (by decide) s1317
    have s1376 := gSg.rawat g1324 rf1295 (fun w => by cases w) t1242 (by decide) s1318
    have s1377 := gSg.rawat g1324 rf1295 (fun w => by cases w) t1242 (by decide) s1319
    have s1378 := gSg.rawat g1324 rf1295 (fun w => by cases w) t1242 (by decide) s1320
    have s1379 := gSg.rawat g1324 rf1295 (fun w => by cases w) t1242 (by decide) eh1291
    have pr1380 : gNo [1, 27, 28, 29, 30, 31, 32, 33, 34, 35, 36, 37, 38, 39, 40, 41, 42] ty1321 := gNo.gr g1324 (by decide +kernel) (gNo.sub (by decide +kernel) pr1289)
    have sS1381 : gSs rT 1027 ty1321 [8999, 10999, 31999] h1322 h1322 := gSs.rf g1324.1
    clear G1293 dd1297 pr1289 rf1295 rf1296 s1298 s1299 s1300 s1301 s1302 s1303 s1304 s1305 s1306 s1307 s1308 s1309 s1310 s1311 s1312 s1313 s1314 s1315 s1316 s1317 s1318 s1319 s1320 sS1294 t1242 t1243 t1244 t1245 t1246 t1247 t1248 t1249 t1250 t1251 t1252 t1253 t1254 t1255 t1256 t1257 t1258 t1259 t1260 t1261 t1262 t1263 t1264 t1265 uq1236
    have hoz1382 : gOyB ty1321 26 0 1024 h1322 := gOyB.new uq1325 tc1323 (by decide) (fun _ => rfl) (fun k => dc1323 k)
    refine gs_rput rfl (by decide) rfl sS1381.1 t1331 nx rw1327.2.1 rf1328 rfl (Or.inr rfl) (fun h1383 g1384 nh1383 mh1383 kh1383 zh1383 eh1383 fh1383 => ?_)
    have G1385 : gSg [1, 2, 3, 4, 5, 6, 7, 8, 9, 10, 11, 12, 13, 14, 15, 16, 17, 18, 19, 20, 21, 22, 23, 24, 25, 26, 27, 28, 29, 30, 31, 32, 33, 34, 35, 36, 37, 38, 39, 40, 41, 42, 200] [x] [8999, 10999, 31999] ty h ty1321 h1383 := gSg.tr (gSg.ss G1326 sS1381 (by decide)) g1384 (by decide) (by decide) (fun x hx => Or.inr hx)
    have pr1386 := gOyB.gr g1384 sS1381.1 rfl (by decide) (by decide) hoz1382
    have sS1387 : gSs rT 1027 ty1321 [8999, 10999, 31999] h1383 h1383 := gSs.rf g1384.1
    have rf1388 := Nat.lt_of_lt_of_eq rw1327.2.1 nh1383.symm
    have rf1389 := zh1383.trans rf1329
    have dd1390 : ∀ k, ¬ k ∈ ([49, 40, 38, 37, 36, 35, 34, 33, 32, 31, 30, 29, 28, 27, 26, 25, 15, 14, 13, 12, 11, 10, 9, 4, 2] : List Nat) → h1383.2.2.2.2 x k = defaultValue (gGG.2.1 12 k) := raw_dp fh1383 dd1330
    have s1391 := (fh1383 2 (by decide)).trans s1356
    have s1392 := (fh1383 4 (by decide)).trans s1357
    have s1393 := (fh1383 9 (by decide)).trans s1358
    have s1394 := (fh1383 10 (by decide)).trans s1359
    have s1395 := (fh1383 11 (by decide)).trans s1360
    have s1396 := (fh1383 12 (by decide)).trans s1361
    have s1397 := (fh1383 13 (by decide)).trans s1362
    have s1398 := (fh1383 14 (by decide)).trans s1363
    have s1399 := (fh1383 15 (by decide)).trans s1364
    have s1400 := (fh1383 25 (by decide)).trans s1365
    have s1401 := (fh1383 26 (by decide)).trans s1366
    have s1402 := (fh1383 27 (by decide)).trans s1367
    have s1403 := (fh1383 28 (by decide)).trans s1368
    have s1404 := (fh1383 29 (by decide)).trans s1369
    have s1405 := (fh1383 30 (by decide)).trans s1370
    have s1406 := (fh1383 31 (by decide)).trans s1371
    have s1407 := (fh1383 32 (by decide)).trans s1372
    have s1408 := (fh1383 33 (by decide)).trans s1373
    have s1409 := (fh1383 34 (by decide)).trans s1374
    have s1410 := (fh1383 35 (by decide)).trans s1375
    have s1411 := (fh1383 36 (by decide)).trans s1376
    have s1412 := (fh1383 37 (by decide)).trans s1377
    have s1413 := (fh1383 38 (by decide)).trans s1378
    have s1414 := (fh1383 40 (by decide)).trans s1379
    clear G1326 dd1330 rf1328 rf1329 rw1327 s1356 s1357 s1358 s1359 s1360 s1361 s1362 s1363 s1364 s1365 s1366 s1367 s1368 s1369 s1370 s1371 s1372 s1373 s1374 s1375 s1376 s1377 s1378 s1379 sS1381
    have lp1415 := cmlp1415 d hJ x nx c3 c23 c46 c72 c101 c133 c171 c209 c250 c294 c341 c391 c447 c503 c562 c624 c689 c760 c831 c905 c982 c1065 c1148 c1234 c1323
    have G3610 : gSg [1, 2, 3, 4, 5, 6, 7, 8, 9, 10, 11, 12, 13, 14, 15, 16, 17, 18, 19, 20, 21, 22, 23, 24, 25, 26, 27, 28, 29, 30, 31, 32, 33, 34, 35, 36, 37, 38, 39, 40, 41, 42, 200] [x] [8999, 10999, 31999] ty h ty1321 h1383 := gSg.ss G1385 sS1387 (by decide)
    exact gz_wk (lp1415 _ ty1321 h1383  (Nat.lt_succ_self _) G3610 uq1325 t1331 t1332 t1333 t1334 t1335 t1336 t1337 t1338 t1339 t1340 t1341 t1342 t1343 t1344 t1345 t1346 t1347 t1348 t1349 t1350 t1351 t1352 t1353 t1354 t1355 tc1323 (by omega) (by omega) s1391 s1392 s1393 s1394 s1395 s1396 s1397 s1398 s1399 s1400 s1401 s1402 s1403 s1404 s1405 s1406 s1407 s1408 s1409 s1410 s1411 s1412 s1413 s1414 eh1383 pr1380 pr1386 rf1388 kh1383 rf1389 dd1390) (gLw.s (gLw.n (gLw.n (gLw.n (gLw.n gLw.z)))))
set_option maxRecDepth 20000 in
set_option maxHeartbeats 4000000 in
theorem cmlp755 (d : Nat) {ty : Nat → Nat} {h : gH} (hJ : gJ rT 1027 ty h) (x : Nat) (nx : 1027 ≤ x) (c3 c23 c46 c72 c101 c133 c171 c209 c250 c294 c341 c391 c447 c503 c562 c624 c689 : Nat) : ∀ (fu : Nat) (ty757 : Nat → Nat) (h756 : gH), ((1 : Int)).toNat < fu → gSg [1, 2, 3, 4, 5, 6, 7, 8, 9, 10, 11, 12, 13, 14, 15, 16, 17, 18, 19, 20, 21, 22, 23, 24, 25, 26, 27, 28, 29, 30, 31, 32, 33, 34, 35, 36, 37, 38, 39, 40, 41, 42, 200] [x] [8999, 10999, 31999] ty h ty757 h756 → gUq ty757 → ty757 x = 200 → ty757 c3 = 2 → ty757 c23 = 3 → ty757 c46 = 4 → ty757 c72 = 5 → ty757 c101 = 6 → ty757 c133 = 7 → ty757 c171 = 8 → ty757 c209 = 9 → ty757 c250 = 10 → ty757 c294 = 11 → ty757 c341 = 12 → ty757 c391 = 13 → ty757 c447 = 14 → ty757 c503 = 15 → ty757 c562 = 16 → ty757 c624 = 17 → ty757 c689 = 18 → ((h756.1 : Int) = h.1 + 17) → ((h756.2.1 : Int) = h.2.1 + 10776) → h756.2.2.2.2 x 2 = .ref c3 → h756.2.2.2.2 x 4 = .ref c23 → h756.2.2.2.2 x 9 = .ref c46 → h756.2.2.2.2 x 10 = .ref c72 → h756.2.2.2.2 x 11 = .ref c101 → h756.2.2.2.2 x 12 = .ref c133 → h756.2.2.2.2 x 13 = .ref c171 → h756.2.2.2.2 x 14 = .ref c209 → h756.2.2.2.2 x 15 = .ref c250 → h756.2.2.2.2 x 25 = .ref c294 → h756.2.2.2.2 x 26 = .ref c341 → h756.2.2.2.2 x 27 = .ref c391 → h756.2.2.2.2 x 28 = .ref c447 → h756.2.2.2.2 x 29 = .ref c503 → h756.2.2.2.2 x 30 = .ref c562 → h756.2.2.2.2 x 31 = .ref c624 → h756.2.2.2.2 x 32 = .ref c689 → gNo [1, 19, 20, 21, 22, 23, 24, 25, 26, 27, 28, 29, 30, 31, 32, 33, 34, 35, 36, 37, 38, 39, 40, 41, 42] ty757 → x < h756.1 → h756.2.2.1 x = some (.inr 12) → h756.2.2.2.1 x = 0 → (∀ k, ¬ k ∈ ([32, 31, 30, 29, 28, 27, 26, 25, 15, 14, 13, 12, 11, 10, 9, 4, 2] : List Nat) → h756.2.2.2.2 x k = defaultValue (gGG.2.1 12 k)) → gz gPP gGG gcn (d + 1) gt130 139 [some (.ref x), none, none, none, none] [] h756 (fun q _ => ∃ ty9 : Nat → Nat, gSg [1, 2, 3, 4, 5, 6, 7, 8, 9, 10, 11, 12, 13, 14, 15, 16, 17, 18, 19, 20, 21, 22, 23, 24, 25, 26, 27, 28, 29, 30, 31, 32, 33, 34, 35, 36, 37, 38, 39, 40, 41, 42, 200] [x] [8999, 10999, 31999] ty h ty9 q.2.2 ∧ ∃ ip n1 cw ch iv1 : Int, ty9 x = 1 ∧ gfin gt130 q.1 q.2.1 = some none ∧ q.2.2.2.2.2.2 x 16 = .int (zi ip) ∧ 0 ≤ ip ∧ ip ≤ 1 ∧ q.2.2.2.2.2.2 x 53 = .int (zi n1) ∧ 0 ≤ n1 ∧ n1 ≤ 10 ∧ q.2.2.2.2.2.2 x 50 = .int (zi cw) ∧ 0 ≤ cw ∧ cw ≤ 32 ∧ q.2.2.2.2.2.2 x 51 = .int (zi ch) ∧ 0 ≤ ch ∧ ch ≤ 32 ∧ q.2.2.2.2.2.2 x 52 = .int (zi iv1) ∧ 0 ≤ iv1 ∧ iv1 ≤ 100 ∧ (ip = 0) ∧ (n1 = 0) ∧ (cw = 0) ∧ (ch = 0) ∧ (iv1 = 0) ∧ ((q.2.2.1 : Int) = h.1 + 41) ∧ ((q.2.2.2.1 : Int) = h.2.1 + 88652) ∧ (gTs ty9 0 q.2.2) ∧ (gOyB ty9 26 0 1024 q.2.2) ∧ gUq ty9) := by
  intro fu
  induction fu with
  | zero => intro ty757 h756  hm; exact absurd hm (Nat.not_lt_zero _)
  | succ fu ihlp755 =>
    intro ty757 h756  lp755m lp755G lp755u lp755c0 lp755c1 lp755c2 lp755c3 lp755c4 lp755c5 lp755c6 lp755c7 lp755c8 lp755c9 lp755c10 lp755c11 lp755c12 lp755c13 lp755c14 lp755c15 lp755c16 lp755c17 lp755f0 lp755f1 lp755k0 lp755k1 lp755k2 lp755k3 lp755k4 lp755k5 lp755k6 lp755k7 lp755k8 lp755k9 lp755k10 lp755k11 lp755k12 lp755k13 lp755k14 lp755k15 lp755k16 lp755k17 lp755w0 lp755w1 lp755w2 lp755w3
    have sh756 : gSs rT 1027 ty757 [8999, 10999, 31999] h756 h756 := gSs.rf lp755G.1
    refine gz_s 2 (pc' := 141) (L' := [some (.ref x), none, none, none, none]) (S' := [.int (zi 3), .ref x]) rfl ?_
    refine gs_newr 19 rfl (by decide) rfl sh756.1 (Nat.le_of_lt (Nat.lt_of_le_of_lt (gJ.cell sh756.1 lp755c1 rfl).1 (gJ.cell sh756.1 lp755c1 rfl).2.1)) (by omega) (by omega) rfl rfl (by show (3 : Int) ≤ _; omega) (by show _ ≤ (3 : Int); omega) (fun _ _ => gos_i (by decide) (by decide)) (fun ty758 h759 c760 g761 tc760 lc760 nc760 mc760 ec760 dc760 uc760 => ?_)
    have gac760 : h.1 ≤ c760 := by have h8 := lp755G.2.1; have h9 := sh756.2.1; omega
    have uq762 := uc760 lp755u (Or.inr (gNo.sub (by decide +kernel) lp755k17))
    have G763 : gSg [1, 2, 3, 4, 5, 6, 7, 8, 9, 10, 11, 12, 13, 14, 15, 16, 17, 18, 19, 20, 21, 22, 23, 24, 25, 26, 27, 28, 29, 30, 31, 32, 33, 34, 35, 36, 37, 38, 39, 40, 41, 42, 200] [x] [8999, 10999, 31999] ty h ty758 h759 := gSg.tr (gSg.ss lp755G sh756 (by decide)) g761 (by decide) (by decide) (fun x hx => by cases hx)
    have rw764 := gSg.raw g761 lp755w0 (fun w => by cases w)
    have rf765 := (rw764.2.2.1.trans lp755w1)
    have rf766 := (rw764.2.2.2.trans lp755w2)
    have dd767 := gSg.rawd (ci := 12) (ps := [32, 31, 30, 29, 28, 27, 26, 25, 15, 14, 13, 12, 11, 10, 9, 4, 2]) g761 lp755w0 (fun w => by cases w) lp755c0 (by decide) lp755w3
    have t768 : ty758 x = 200 := rw764.1.trans lp755c0
    have t769 : ty758 c3 = 2 := gSg.typ g761 sh756.1 lp755c1 rTk_2
    have t770 : ty758 c23 = 3 := gSg.typ g761 sh756.1 lp755c2 rTk_3
    have t771 : ty758 c46 = 4 := gSg.typ g761 sh756.1 lp755c3 rTk_4
    have t772 : ty758 c72 = 5 := gSg.typ g761 sh756.1 lp755c4 rTk_5
    have t773 : ty758 c101 = 6 := gSg.typ g761 sh756.1 lp755c5 rTk_6
    have t774 : ty758 c133 = 7 := gSg.typ g761 sh756.1 lp755c6 rTk_7
    have t775 : ty758 c171 = 8 := gSg.typ g761 sh756.1 lp755c7 rTk_8
    have t776 : ty758 c209 = 9 := gSg.typ g761 sh756.1 lp755c8 rTk_9
    have t777 : ty758 c250 = 10 := gSg.typ g761 sh756.1 lp755c9 rTk_10
    have t778 : ty758 c294 = 11 := gSg.typ g761 sh756.1 lp755c10 rTk_11
    have t779 : ty758 c341 = 12 := gSg.typ g761 sh756.1 lp755c11 rTk_12
    have t780 : ty758 c391 = 13 := gSg.typ g761 sh756.1 lp755c12 rTk_13
    have t781 : ty758 c447 = 14 := gSg.typ g761 sh756.1 lp755c13 rTk_14
    have t782 : ty758 c503 = 15 := gSg.typ g761 sh756.1 lp755c14 rTk_15
    have t783 : ty758 c562 = 16 := gSg.typ g761 sh756.1 lp755c15 rTk_16
    have t784 : ty758 c624 = 17 := gSg.typ g761 sh756.1 lp755c16 rTk_17
    have t785 : ty758 c689 = 18 := gSg.typ g761 sh756.1 lp755c17 rTk_18
    have s786 := gSg.rawat g761 lp755w0 (fun w => by cases w) lp755c0 (by decide) lp755k0
    have s787 := gSg.rawat g761 lp755w0 (fun w => by cases w) lp755c0 (by decide) lp755k1
    have s788 := gSg.rawat g761 lp755w0 (fun w => by cases w) lp755c0 (by decide) lp755k2
    have s789 := gSg.rawat g761 lp755w0 (fun w => by cases w) lp755c0 (by decide) lp755k3
    have s790 := gSg.rawat g761 lp755w0 (fun w => by cases w) lp755c0 (by decide) lp755k4
    have s791 := gSg.rawat g761 lp755w0 (fun w => by cases w) lp755c0 (by decide) lp755k5
    have s792 := gSg.rawat g761 lp755w0 (fun w => by cases w) lp755c0 (by decide) lp755k6
    have s793 := gSg.rawat g761 lp755w0 (fun w => by cases w) lp755c0 (by decide) lp755k7
    have s794 := gSg.rawat g761 lp755w0 (fun w => by cases w) lp755c0 (by decide) lp755k8
    have s795 := gSg.rawat g761 lp755w0 (fun w => by cases w) lp755c0 (by decide) lp755k9
    have s796 := gSg.rawat g761 lp755w0 (fun w => by cases w) lp755c0 (by decide) lp755k10
    have s797 := gSg.rawat g761 lp755w0 (fun w => by cases w) lp755c0 (by decide) lp755k11
    have s798 := gSg.rawat g761 lp755w0 (fun w => by cases w) lp755c0 (by decide) lp755k12
    have s799 := gSg.rawat g761 lp755w0 (fun w => by cases w) lp755c0 (by decide) lp755k13
    have s800 := gSg.rawat g761 lp755w0 (fun w => by cases w) lp755c0 (by decide) lp755k14
    have s801 := gSg.rawat g761 lp755w0 (fun w => by cases w) lp755c0 (by decide) lp755k15
    have s802 := gSg.rawat g761 lp755w0 (fun w => by cases w) lp755c0 (by decide) lp755k16
    have pr803 : gNo [1, 20, 21, 22, 23, 24, 25, 26, 27, 28, 29, 30, 31, 32, 33, 34, 35, 36, 37, 38, 39, 40, 41, 42] ty758 := gNo.gr g761 (by decide +kernel) (gNo.sub (by decide +kernel) lp755k17)
    have sS804 : gSs rT 1027 ty758 [8999, 10999, 31999] h759 h759 := gSs.rf g761.1
    refine gs_rput rfl (by decide) rfl sS804.1 t768 nx rw764.2.1 rf765 rfl (Or.inr rfl) (fun h805 g806 nh805 mh805 kh805 zh805 eh805 fh805 => ?_)
    have G807 : gSg [1, 2, 3, 4, 5, 6, 7, 8, 9, 10, 11, 12, 13, 14, 15, 16, 17, 18, 19, 20, 21, 22, 23, 24, 25, 26, 27, 28, 29, 30, 31, 32, 33, 34, 35, 36, 37, 38, 39, 40, 41, 42, 200] [x] [8999, 10999, 31999] ty h ty758 h805 := gSg.tr (gSg.ss G763 sS804 (by decide)) g806 (by decide) (by decide) (fun x hx => Or.inr hx)
    have sS808 : gSs rT 1027 ty758 [8999, 10999, 31999] h805 h805 := gSs.rf g806.1
    have rf809 := Nat.lt_of_lt_of_eq rw764.2.1 nh805.symm
    have rf810 := zh805.trans rf766
    have dd811 : ∀ k, ¬ k ∈ ([33, 32, 31, 30, 29, 28, 27, 26, 25, 15, 14, 13, 12, 11, 10, 9, 4, 2] : List Nat) → h805.2.2.2.2 x k = defaultValue (gGG.2.1 12 k) := raw_dp fh805 dd767
    have s812 := (fh805 2 (by decide)).trans s786
    have s813 := (fh805 4 (by decide)).trans s787
    have s814 := (fh805 9 (by decide)).trans s788
    have s815 := (fh805 10 (by decide)).trans s789
    have s816 := (fh805 11 (by decide)).trans s790
    have s817 := (fh805 12 (by decide)).trans s791
    have s818 := (fh805 13 (by decide)).trans s792
    have s819 := (fh805 14 (by decide)).trans s793
    have s820 := (fh805 15 (by decide)).trans s794
    have s821 := (fh805 25 (by decide)).trans s795
    have s822 := (fh805 26 (by decide)).trans s796
    have s823 := (fh805 27 (by decide)).trans s797
    have s824 := (fh805 28 (by decide)).trans s798
    have s825 := (fh805 29 (by decide)).trans s799
    have s826 := (fh805 30 (by decide)).trans s800
    have s827 := (fh805 31 (by decide)).trans s801
    have s828 := (fh805 32 (by decide)).trans s802
    clear G763 dd767 rf765 rf766 rw764 s786 s787 s788 s789 s790 s791 s792 s793 s794 s795 s796 s797 s798 s799 s800 s801 s802 sS804
    refine gz_s 2 (pc' := 148) (L' := [some (.ref x), none, none, none, none]) (S' := [.int (zi 3), .ref x]) rfl ?_
    refine gs_newr 20 rfl (by decide) rfl sS808.1 (Nat.le_of_lt (Nat.lt_of_le_of_lt (gJ.cell sS808.1 t769 rfl).1 (gJ.cell sS808.1 t769 rfl).2.1)) (by omega) (by omega) rfl rfl (by show (3 : Int) ≤ _; omega) (by show _ ≤ (3 : Int); omega) (fun _ _ => gos_i (by decide) (by decide)) (fun ty829 h830 c831 g832 tc831 lc831 nc831 mc831 ec831 dc831 uc831 => ?_)
    have gac831 : h.1 ≤ c831 := by have h8 := G807.2.1; have h9 := sS808.2.1; omega
    have uq833 := uc831 uq762 (Or.inr (gNo.sub (by decide +kernel) pr803))
    have G834 : gSg [1, 2, 3, 4, 5, 6, 7, 8, 9, 10, 11, 12, 13, 14, 15, 16, 17, 18, 19, 20, 21, 22, 23, 24, 25, 26, 27, 28, 29, 30, 31, 32, 33, 34, 35, 36, 37, 38, 39, 40, 41, 42, 200] [x] [8999, 10999, 31999] ty h ty829 h830 := gSg.tr (gSg.ss G807 sS808 (by decide)) g832 (by decide) (by decide) (fun x hx => by cases hx)
    have rw835 := gSg.raw g832 rf809 (fun w => by cases w)
    have rf836 := (rw835.2.2.1.trans kh805)
    have rf837 := (rw835.2.2.2.trans rf810)
    have dd838 := gSg.rawd (ci := 12) (ps := [33, 32, 31, 30, 29, 28, 27, 26, 25, 15, 14, 13, 12, 11, 10, 9, 4, 2]) g832 rf809 (fun w => by cases w) t768 (by decide) dd811
    have t839 : ty829 x = 200 := rw835.1.trans t768
    have t840 : ty829 c3 = 2 := gSg.typ g832 sS808.1 t769 rTk_2
    have t841 : ty829 c23 = 3 := gSg.typ g832 sS808.1 t770 rTk_3
    have t842 : ty829 c46 = 4 := gSg.typ g832 sS808.1 t771 rTk_4
    have t843 : ty829 c72 = 5 := gSg.typ g832 sS808.1 t772 rTk_5
    have t844 : ty829 c101 = 6 := gSg.typ g832 sS808.1 t773 rTk_6
    have t845 : ty829 c133 = 7 := gSg.typ g832 sS808.1 t774 rTk_7
    have t846 : ty829 c171 = 8 := gSg.typ g832 sS808.1 t775 rTk_8
    have t847 : ty829 c209 = 9 := gSg.typ g832 sS808.1 t776 rTk_9
    have t848 : ty829 c250 = 10 := gSg.typ g832 sS808.1 t777 rTk_10
    have t849 : ty829 c294 = 11 := gSg.typ g832 sS808.1 t778 rTk_11
    have t850 : ty829 c341 = 12 := gSg.typ g832 sS808.1 t779 rTk_12
    have t851 : ty829 c391 = 13 := gSg.typ g832 sS808.1 t780 rTk_13
    have t852 : ty829 c447 = 14 := gSg.typ g832 sS808.1 t781 rTk_14
    have t853 : ty829 c503 = 15 := gSg.typ g832 sS808.1 t782 rTk_15
    have t854 : ty829 c562 = 16 := gSg.typ g832 sS808.1 t783 rTk_16
    have t855 : ty829 c624 = 17 := gSg.typ g832 sS808.1 t784 rTk_17
    have t856 : ty829 c689 = 18 := gSg.typ g832 sS808.1 t785 rTk_18
    have t857 : ty829 c760 = 19 := gSg.typ g832 sS808.1 tc760 rTk_19
    have s858 := gSg.rawat g832 rf809 (fun w => by cases w) t768 (by decide) s812
    have s859 := gSg.rawat g832 rf809 (fun w => by cases w) t768 (by decide) s813
    have s860 := gSg.rawat g832 rf809 (fun w => by cases w) t768 (by decide) s814
    have s861 := gSg.rawat g832 rf809 (fun w => by cases w) t768 (by decide) s815
    have s862 := gSg.rawat g832 rf809 (fun w => by cases w) t768 (by decide) s816
    have s863 := gSg.rawat g832 rf809 (fun w => by cases w) t768 (by decide) s817
    have s864 := gSg.rawat g832 rf809 (fun w => by cases w) t768 (by decide) s818
    have s865 := gSg.rawat g832 rf809 (fun w => by cases w) t768 (by decide) s819
    have s866 := gSg.rawat g832 rf809 (fun w => by cases w) t768 (by decide) s820
    have s867 := gSg.rawat g832 rf809 (fun w => by cases w) t768 (by decide) s821
    have s868 := gSg.rawat g832 rf809 (fun w => by cases w) t768 (by decide) s822
    have s869 := gSg.rawat g832 rf809 (fun w => by cases w) t768 (by decide) s823
    have s870 := gSg.rawat g832 rf809 (fun w => by cases w) t768 (by decide) s824
    have s871 := gSg.rawat g832 rf809 (fun w => by cases w) t768 (by decide) s825
    have s872 := gSg.rawat g832 rf809 (fun w => by cases w) t768 (by decide) s826
    have s873 := gSg.rawat g832 rf809 (fun w => by cases w) t768 (by decide) s827
    have s874 := gSg.rawat g832 rf809 (fun w => by cases w) t768 (by decide) s828
    have s875 := gSg.rawat g832 rf809 (fun w => by cases w) t768 (by decide) eh805
    have pr876 : gNo [1, 21, 22, 23, 24, 25, 26, 27, 28, 29, 30, 31, 32, 33, 34, 35, 36, 37, 38, 39, 40, 41, 42] ty829 := gNo.gr g832 (by decide +kernel) (gNo.sub (by decide +kernel) pr803)
    have sS877 : gSs rT 1027 ty829 [8999, 10999, 31999] h830 h830 := gSs.rf g832.1
    clear G807 dd811 pr803 rf809 rf810 s812 s813 s814 s815 s816 s817 s818 s819 s820 s821 s822 s823 s824 s825 s826 s827 s828 sS808 t768 t769 t770 t771 t772 t773 t774 t775 t776 t777 t778 t779 t780 t781 t782 t783 t784 t785 uq762
    refine gs_rput rfl (by decide) rfl sS877.1 t839 nx rw835.2.1 rf836 rfl (Or.inr rfl) (fun h878 g879 nh878 mh878 kh878 zh878 eh878 fh878 => ?_)
    have G880 : gSg [1, 2, 3, 4, 5, 6, 7, 8, 9, 10, 11, 12, 13, 14, 15, 16, 17, 18, 19, 20, 21, 22, 23, 24, 25, 26, 27, 28, 29, 30, 31, 32, 33, 34, 35, 36, 37, 38, 39, 40, 41, 42, 200] [x] [8999, 10999, 31999] ty h ty829 h878 := gSg.tr (gSg.ss G834 sS877 (by decide)) g879 (by decide) (by decide) (fun x hx => Or.inr hx)
    have sS881 : gSs rT 1027 ty829 [8999, 10999, 31999] h878 h878 := gSs.rf g879.1
    have rf882 := Nat.lt_of_lt_of_eq rw835.2.1 nh878.symm
    have rf883 := zh878.trans rf837
    have dd884 : ∀ k, ¬ k ∈ ([34, 33, 32, 31, 30, 29, 28, 27, 26, 25, 15, 14, 13, 12, 11, 10, 9, 4, 2] : List Nat) → h878.2.2.2.2 x k = defaultValue (gGG.2.1 12 k) := raw_dp fh878 dd838
    have s885 := (fh878 2 (by decide)).trans s858
    have s886 := (fh878 4 (by decide)).trans s859
    have s887 := (fh878 9 (by decide)).trans s860
    have s888 := (fh878 10 (by decide)).trans s861
    have s889 := (fh878 11 (by decide)).trans s862
    have s890 := (fh878 12 (by decide)).trans s863
    have s891 := (fh878 13 (by decide)).trans s864
    have s892 := (fh878 14 (by decide)).trans s865
    have s893 := (fh878 15 (by decide)).trans s866
    have s894 := (fh878 25 (by decide)).trans s867
    have s895 := (fh878 26 (by decide)).trans s868
    have s896 := (fh878 27 (by decide)).trans s869
    have s897 := (fh878 28 (by decide)).trans s870
    have s898 := (fh878 29 (by decide)).trans s871
    have s899 := (fh878 30 (by decide)).trans s872
    have s900 := (fh878 31 (by decide)).trans s873
    have s901 := (fh878 32 (by decide)).trans s874
    have s902 := (fh878 33 (by decide)).trans s875
    clear G834 dd838 rf836 rf837 rw835 s858 s859 s860 s861 s862 s863 s864 s865 s866 s867 s868 s869 s870 s871 s872 s873 s874 s875 sS877
    refine gz_s 2 (pc' := 155) (L' := [some (.ref x), none, none, none, none]) (S' := [.int (zi 3), .ref x]) rfl ?_
    refine gs_newr 21 rfl (by decide) rfl sS881.1 (Nat.le_of_lt (Nat.lt_of_le_of_lt (gJ.cell sS881.1 t840 rfl).1 (gJ.cell sS881.1 t840 rfl).2.1)) (by omega) (by omega) rfl rfl (by show (3 : Int) ≤ _; omega) (by show _ ≤ (3 : Int); omega) (fun _ _ => gos_i (by decide) (by decide)) (fun ty903 h904 c905 g906 tc905 lc905 nc905 mc905 ec905 dc905 uc905 => ?_)
    have gac905 : h.1 ≤ c905 := by have h8 := G880.2.1; have h9 := sS881.2.1; omega
    have uq907 := uc905 uq833 (Or.inr (gNo.sub (by decide +kernel) pr876))
    have G908 : gSg [1, 2, 3, 4, 5, 6, 7, 8, 9, 10, 11, 12, 13, 14, 15, 16, 17, 18, 19, 20, 21, 22, 23, 24, 25, 26, 27, 28, 29, 30, 31, 32, 33, 34, 35, 36, 37, 38, 39, 40, 41, 42, 200] [x] [8999, 10999, 31999] ty h ty903 h904 := gSg.tr (gSg.ss G880 sS881 (by decide)) g906 (by decide) (by decide) (fun x hx => by cases hx)
    have rw909 := gSg.raw g906 rf882 (fun w => by cases w)
    have rf910 := (rw909.2.2.1.trans kh878)
    have rf911 := (rw909.2.2.2.trans rf883)
    have dd912 := gSg.rawd (ci := 12) (ps := [34, 33, 32, 31, 30, 29, 28, 27, 26, 25, 15, 14, 13, 12, 11, 10, 9, 4, 2]) g906 rf882 (fun w => by cases w) t839 (by decide) dd884
    have t913 : ty903 x = 200 := rw909.1.trans t839
    have t914 : ty903 c3 = 2 := gSg.typ g906 sS881.1 t840 rTk_2
    have t915 : ty903 c23 = 3 := gSg.typ g906 sS881.1 t841 rTk_3
    have t916 : ty903 c46 = 4 := gSg.typ g906 sS881.1 t842 rTk_4
    have t917 : ty903 c72 = 5 := gSg.typ g906 sS881.1 t843 rTk_5
    have t918 : ty903 c101 = 6 := gSg.typ g906 sS881.1 t844 rTk_6
    have t919 : ty903 c133 = 7 := gSg.typ g906 sS881.1 t845 rTk_7
    have t920 : ty903 c171 = 8 := gSg.typ g906 sS881.1 t846 rTk_8
    have t921 : ty903 c209 = 9 := gSg.typ g906 sS881.1 t847 rTk_9
    have t922 : ty903 c250 = 10 := gSg.typ g906 sS881.1 t848 rTk_10
    have t923 : ty903 c294 = 11 := gSg.typ g906 sS881.1 t849 rTk_11
    have t924 : ty903 c341 = 12 := gSg.typ g906 sS881.1 t850 rTk_12
    have t925 : ty903 c391 = 13 := gSg.typ g906 sS881.1 t851 rTk_13
    have t926 : ty903 c447 = 14 := gSg.typ g906 sS881.1 t852 rTk_14
    have t927 : ty903 c503 = 15 := gSg.typ g906 sS881.1 t853 rTk_15
    have t928 : ty903 c562 = 16 := gSg.typ g906 sS881.1 t854 rTk_16
    have t929 : ty903 c624 = 17 := gSg.typ g906 sS881.1 t855 rTk_17
    have t930 : ty903 c689 = 18 := gSg.typ g906 sS881.1 t856 rTk_18
    have t931 : ty903 c760 = 19 := gSg.typ g906 sS881.1 t857 rTk_19
    have t932 : ty903 c831 = 20 := gSg.typ g906 sS881.1 tc831 rTk_20
    have s933 := gSg.rawat g906 rf882 (fun w => by cases w) t839 (by decide) s885
    have s934 := gSg.rawat g906 rf882 (fun w => by cases w) t839 (by decide) s886
    have s935 := gSg.rawat g906 rf882 (fun w => by cases w) t839 (by decide) s887
    have s936 := gSg.rawat g906 rf882 (fun w => by cases w) t839 (by decide) s888
    have s937 := gSg.rawat g906 rf882 (fun w => by cases w) t839 (by decide) s889
    have s938 := gSg.rawat g906 rf882 (fun w => by cases w) t839 (by decide) s890
    have s939 := gSg.rawat g906 rf882 (fun w => by cases w) t839 (by decide) s891
    have s940 := gSg.rawat g906 rf882 (fun w => by cases w) t839 (by decide) s892
    have s941 := gSg.rawat g906 rf882 (fun w => by cases w) t839 (by decide) s893
    have s942 := gSg.rawat g906 rf882 (fun w => by cases w) t839 (by decide) s894
    have s943 := gSg.rawat g906 rf882 (fun w => by cases w) t839 (by decide) s895
    have s944 := gSg.rawat g906 rf882 (fun w => by cases w) t839 (by decide) s896
    have s945 := gSg.rawat g906 rf882 (fun w => by cases w) t839 (by decide) s897
    have s946 := gSg.rawat g906 rf882 (fun w => by cases w) t839 (by decide) s898
    have s947 := gSg.rawat g906 rf882 (fun w => by cases w) t839 (by decide) s899
    have s948 := gSg.rawat g906 rf882 (fun w => by cases w) t839 (by decide) s900
    have s949 := gSg.rawat g906 rf882 (fun w => by cases w) t839 (by decide) s901
    have s950 := gSg.rawat g906 rf882 (fun w => by cases w) t839 (by decide) s902
    have s951 := gSg.rawat g906 rf882 (fun w => by cases w) t839 (by decide) eh878
    have pr952 : gNo [1, 22, 23, 24, 25, 26, 27, 28, 29, 30, 31, 32, 33, 34, 35, 36, 37, 38, 39, 40, 41, 42] ty903 := gNo.gr g906 (by decide +kernel) (gNo.sub (by decide +kernel) pr876)
    have sS953 : gSs rT 1027 ty903 [8999, 10999, 31999] h904 h904 := gSs.rf g906.1
    clear G880 dd884 pr876 rf882 rf883 s885 s886 s887 s888 s889 s890 s891 s892 s893 s894 s895 s896 s897 s898 s899 s900 s901 s902 sS881 t839 t840 t841 t842 t843 t844 t845 t846 t847 t848 t849 t850 t851 t852 t853 t854 t855 t856 t857 uq833
    refine gs_rput rfl (by decide) rfl sS953.1 t913 nx rw909.2.1 rf910 rfl (Or.inr rfl) (fun h954 g955 nh954 mh954 kh954 zh954 eh954 fh954 => ?_)
    have G956 : gSg [1, 2, 3, 4, 5, 6, 7, 8, 9, 10, 11, 12, 13, 14, 15, 16, 17, 18, 19, 20, 21, 22, 23, 24, 25, 26, 27, 28, 29, 30, 31, 32, 33, 34, 35, 36, 37, 38, 39, 40, 41, 42, 200] [x] [8999, 10999, 31999] ty h ty903 h954 := gSg.tr (gSg.ss G908 sS953 (by decide)) g955 (by decide) (by decide) (fun x hx => Or.inr hx)
    have sS957 : gSs rT 1027 ty903 [8999, 10999, 31999] h954 h954 := gSs.rf g955.1
    have rf958 := Nat.lt_of_lt_of_eq rw909.2.1 nh954.symm
    have rf959 := zh954.trans rf911
    have dd960 : ∀ k, ¬ k ∈ ([35, 34, 33, 32, 31, 30, 29, 28, 27, 26, 25, 15, 14, 13, 12, 11, 10, 9, 4, 2] : List Nat) → h954.2.2.2.2 x k = defaultValue (gGG.2.1 12 k) := raw_dp fh954 dd912
    have s961 := (fh954 2 (by decide)).trans s933
    have s962 := (fh954 4 (by decide)).trans s934
    have s963 := (fh954 9 (by decide)).trans s935
    have s964 := (fh954 10 (by decide)).trans s936
    have s965 := (fh954 11 (by decide)).trans s937
    have s966 := (fh954 12 (by decide)).trans s938
    have s967 := (fh954 13 (by decide)).trans s939
    have s968 := (fh954 14 (by decide)).trans s940
    have s969 := (fh954 15 (by decide)).trans s941
    have s970 := (fh954 25 (by decide)).trans s942
    have s971 := (fh954 26 (by decide)).trans s943
    have s972 := (fh954 27 (by decide)).trans s944
    have s973 := (fh954 28 (by decide)).trans s945
    have s974 := (fh954 29 (by decide)).trans s946
    have s975 := (fh954 30 (by decide)).trans s947
    have s976 := (fh954 31 (by decide)).trans s948
    have s977 := (fh954 32 (by decide)).trans s949
    have s978 := (fh954 33 (by decide)).trans s950
    have s979 := (fh954 34 (by decide)).trans s951
    clear G908 dd912 rf910 rf911 rw909 s933 s934 s935 s936 s937 s938 s939 s940 s941 s942 s943 s944 s945 s946 s947 s948 s949 s950 s951 sS953
    refine gz_s 2 (pc' := 162) (L' := [some (.ref x), none, none, none, none]) (S' := [.int (zi 3), .ref x]) rfl ?_
    refine gs_newr 22 rfl (by decide) rfl sS957.1 (Nat.le_of_lt (Nat.lt_of_le_of_lt (gJ.cell sS957.1 t914 rfl).1 (gJ.cell sS957.1 t914 rfl).2.1)) (by omega) (by omega) rfl rfl (by show (3 : Int) ≤ _; omega) (by show _ ≤ (3 : Int); omega) (fun _ _ => gos_i (by decide) (by decide)) (fun ty980 h981 c982 g983 tc982 lc982 nc982 mc982 ec982 dc982 uc982 => ?_)
    have gac982 : h.1 ≤ c982 := by have h8 := G956.2.1; have h9 := sS957.2.1; omega
    have uq984 := uc982 uq907 (Or.inr (gNo.sub (by decide +kernel) pr952))
    have G985 : gSg [1, 2, 3, 4, 5, 6, 7, 8, 9, 10, 11, 12, 13, 14, 15, 16, 17, 18, 19, 20, 21, 22, 23, 24, 25, 26, 27, 28, 29, 30, 31, 32, 33, 34, 35, 36, 37, 38, 39, 40, 41, 42, 200] [x] [8999, 10999, 31999] ty h ty980 h981 := gSg.tr (gSg.ss G956 sS957 (by decide)) g983 (by decide) (by decide) (fun x hx => by cases hx)
    have rw986 := gSg.raw g983 rf958 (fun w => by cases w)
    have rf987 := (rw986.2.2.1.trans kh954)
    have rf988 := (rw986.2.2.2.trans rf959)
    have dd989 := gSg.rawd (ci := 12) (ps := [35, 34, 33, 32, 31, 30, 29, 28, 27, 26, 25, 15, 14, 13, 12, 11, 10, 9, 4, 2]) g983 rf958 (fun w => by cases w) t913 (by decide) dd960
    have t990 : ty980 x = 200 := rw986.1.trans t913
    have t991 : ty980 c3 = 2 := gSg.typ g983 sS957.1 t914 rTk_2
    have t992 : ty980 c23 = 3 := gSg.typ g983 sS957.1 t915 rTk_3
    have t993 : ty980 c46 = 4 := gSg.typ g983 sS957.1 t916 rTk_4
    have t994 : ty980 c72 = 5 := gSg.typ g983 sS957.1 t917 rTk_5
    have t995 : ty980 c101 = 6 := gSg.typ g983 sS957.1 t918 rTk_6
    have t996 : ty980 c133 = 7 := gSg.typ g983 sS957.1 t919 rTk_7
    have t997 : ty980 c171 = 8 := gSg.typ g983 sS957.1 t920 rTk_8
    have t998 : ty980 c209 = 9 := gSg.typ g983 sS957.1 t921 rTk_9
    have t999 : ty980 c250 = 10 := gSg.typ g983 sS957.1 t922 rTk_10
    have t1000 : ty980 c294 = 11 := gSg.typ g983 sS957.1 t923 rTk_11
    have t1001 : ty980 c341 = 12 := gSg.typ g983 sS957.1 t924 rTk_12
    have t1002 : ty980 c391 = 13 := gSg.typ g983 sS957.1 t925 rTk_13
    have t1003 : ty980 c447 = 14 := gSg.typ g983 sS957.1 t926 rTk_14
    have t1004 : ty980 c503 = 15 := gSg.typ g983 sS957.1 t927 rTk_15
    have t1005 : ty980 c562 = 16 := gSg.typ g983 sS957.1 t928 rTk_16
    have t1006 : ty980 c624 = 17 := gSg.typ g983 sS957.1 t929 rTk_17
    have t1007 : ty980 c689 = 18 := gSg.typ g983 sS957.1 t930 rTk_18
    have t1008 : ty980 c760 = 19 := gSg.typ g983 sS957.1 t931 rTk_19
    have t1009 : ty980 c831 = 20 := gSg.typ g983 sS957.1 t932 rTk_20
    have t1010 : ty980 c905 = 21 := gSg.typ g983 sS957.1 tc905 rTk_21
    have s1011 := gSg.rawat g983 rf958 (fun w => by cases w) t913 (by decide) s961
    have s1012 := gSg.rawat g983 rf958 (fun w => by cases w) t913 (by decide) s962
    have s1013 := gSg.rawat g983 rf958 (fun w => by cases w) t913 (by decide) s963
    have s1014 := gSg.rawat g983 rf958 (fun w => by cases w) t913 (by decide) s964
    have s1015 := gSg.rawat g983 rf958 (fun w => by cases w) t913 (by decide) s965
    have s1016 := gSg.rawat g983 rf958 (fun w => by cases w) t913 (by decide) s966
    have s1017 := gSg.rawat g983 rf958 (fun w => by cases w) t913 (by decide) s967
    have s1018 := gSg.rawat g983 rf958 (fun w => by cases w) t913 (by decide) s968
    have s1019 := gSg.rawat g983 rf958 (fun w => by cases w) t913 (by decide) s969
    have s1020 := gSg.rawat g983 rf958 (fun w => by cases w) t913 (by decide) s970
    have s1021 := gSg.rawat g983 rf958 (fun w => by cases w) t913 (by decide) s971
    have s1022 := gSg.rawat g983 rf958 (fun w => by cases w) t913 (by decide) s972
    have s1023 := gSg.rawat g983 rf958 (fun w => by cases w) t913 (by decide) s973
    have s1024 := gSg.rawat g983 rf958 (fun w => by cases w) t913 (by decide) s974
    have s1025 := gSg.rawat g983 rf958 (fun w => by cases w) t913 (by decide) s975
    have s1026 := gSg.rawat g983 rf958 (fun w => by cases w) t913 (by decide) s976
    have s1027 := gSg.rawat g983 rf958 (fun w => by cases w) t913 (by decide) s977
    have s1028 := gSg.rawat g983 rf958 (fun w => by cases w) t913 (by decide) s978
    have s1029 := gSg.rawat g983 rf958 (fun w => by cases w) t913 (by decide) s979
    have s1030 := gSg.rawat g983 rf958 (fun w => by cases w) t913 (by decide) eh954
    have pr1031 : gNo [1, 23, 24, 25, 26, 27, 28, 29, 30, 31, 32, 33, 34, 35, 36, 37, 38, 39, 40, 41, 42] ty980 := gNo.gr g983 (by decide +kernel) (gNo.sub (by decide +kernel) pr952)
    have sS1032 : gSs rT 1027 ty980 [8999, 10999, 31999] h981 h981 := gSs.rf g983.1
    clear G956 dd960 pr952 rf958 rf959 s961 s962 s963 s964 s965 s966 s967 s968 s969 s970 s971 s972 s973 s974 s975 s976 s977 s978 s979 sS957 t913 t914 t915 t916 t917 t918 t919 t920 t921 t922 t923 t924 t925 t926 t927 t928 t929 t930 t931 t932 uq907
    refine gs_rput rfl (by decide) rfl sS1032.1 t990 nx rw986.2.1 rf987 rfl (Or.inr rfl) (fun h1033 g1034 nh1033 mh1033 kh1033 zh1033 eh1033 fh1033 => ?_)
    have G1035 : gSg [1, 2, 3, 4, 5, 6, 7, 8, 9, 10, 11, 12, 13, 14, 15, 16, 17, 18, 19, 20, 21, 22, 23, 24, 25, 26, 27, 28, 29, 30, 31, 32, 33, 34, 35, 36, 37, 38, 39, 40, 41, 42, 200] [x] [8999, 10999, 31999] ty h ty980 h1033 := gSg.tr (gSg.ss G985 sS1032 (by decide)) g1034 (by decide) (by decide) (fun x hx => Or.inr hx)
    have sS1036 : gSs rT 1027 ty980 [8999, 10999, 31999] h1033 h1033 := gSs.rf g1034.1
    have rf1037 := Nat.lt_of_lt_of_eq rw986.2.1 nh1033.symm
    have rf1038 := zh1033.trans rf988
    have dd1039 : ∀ k, ¬ k ∈ ([36, 35, 34, 33, 32, 31, 30, 29, 28, 27, 26, 25, 15, 14, 13, 12, 11, 10, 9, 4, 2] : List Nat) → h1033.2.2.2.2 x k = defaultValue (gGG.2.1 12 k) := raw_dp fh1033 dd989
    have s1040 := (fh1033 2 (by decide)).trans s1011
    have s1041 := (fh1033 4 (by decide)).trans s1012
    have s1042 := (fh1033 9 (by decide)).trans s1013
    have s1043 := (fh1033 10 (by decide)).trans s1014
    have s1044 := (fh1033 11 (by decide)).trans s1015
    have s1045 := (fh1033 12 (by decide)).trans s1016
    have s1046 := (fh1033 13 (by decide)).trans s1017
    have s1047 := (fh1033 14 (by decide)).trans s1018
    have s1048 := (fh1033 15 (by decide)).trans s1019
    have s1049 := (fh1033 25 (by decide)).trans s1020
    have s1050 := (fh1033 26 (by decide)).trans s1021
    have s1051 := (fh1033 27 (by decide)).trans s1022
    have s1052 := (fh1033 28 (by decide)).trans s1023
    have s1053 := (fh1033 29 (by decide)).trans s1024
    have s1054 := (fh1033 30 (by decide)).trans s1025
    have s1055 := (fh1033 31 (by decide)).trans s1026
    have s1056 := (fh1033 32 (by decide)).trans s1027
    have s1057 := (fh1033 33 (by decide)).trans s1028
    have s1058 := (fh1033 34 (by decide)).trans s1029
    have s1059 := (fh1033 35 (by decide)).trans s1030
    clear G985 dd989 rf987 rf988 rw986 s1011 s1012 s1013 s1014 s1015 s1016 s1017 s1018 s1019 s1020 s1021 s1022 s1023 s1024 s1025 s1026 s1027 s1028 s1029 s1030 sS1032
    have lp1060 := cmlp1060 d hJ x nx c3 c23 c46 c72 c101 c133 c171 c209 c250 c294 c341 c391 c447 c503 c562 c624 c689 c760 c831 c905 c982
    have G3611 : gSg [1, 2, 3, 4, 5, 6, 7, 8, 9, 10, 11, 12, 13, 14, 15, 16, 17, 18, 19, 20, 21, 22, 23, 24, 25, 26, 27, 28, 29, 30, 31, 32, 33, 34, 35, 36, 37, 38, 39, 40, 41, 42, 200] [x] [8999, 10999, 31999] ty h ty980 h1033 := gSg.ss G1035 sS1036 (by decide)
    exact gz_wk (lp1060 _ ty980 h1033  (Nat.lt_succ_self _) G3611 uq984 t990 t991 t992 t993 t994 t995 t996 t997 t998 t999 t1000 t1001 t1002 t1003 t1004 t1005 t1006 t1007 t1008 t1009 t1010 tc982 (by omega) (by omega) s1040 s1041 s1042 s1043 s1044 s1045 s1046 s1047 s1048 s1049 s1050 s1051 s1052 s1053 s1054 s1055 s1056 s1057 s1058 s1059 eh1033 pr1031 rf1037 kh1033 rf1038 dd1039) (gLw.s (gLw.n (gLw.n (gLw.n (gLw.n gLw.z)))))
set_option maxRecDepth 20000 in
set_option maxHeartbeats 4000000 in
theorem cmlp442 (d : Nat) {ty : Nat → Nat} {h : gH} (hJ : gJ rT 1027 ty h) (x : Nat) (nx : 1027 ≤ x) (c3 c23 c46 c72 c101 c133 c171 c209 c250 c294 c341 c391 : Nat) : ∀ (fu : Nat) (ty444 : Nat → Nat) (h443 : gH), ((1 : Int)).toNat < fu → gSg [1, 2, 3, 4, 5, 6, 7, 8, 9, 10, 11, 12, 13, 14, 15, 16, 17, 18, 19, 20, 21, 22, 23, 24, 25, 26, 27, 28, 29, 30, 31, 32, 33, 34, 35, 36, 37, 38, 39, 40, 41, 42, 200] [x] [8999, 10999, 31999] ty h ty444 h443 → gUq ty444 → ty444 x = 200 → ty444 c3 = 2 → ty444 c23 = 3 → ty444 c46 = 4 → ty444 c72 = 5 → ty444 c101 = 6 → ty444 c133 = 7 → ty444 c171 = 8 → ty444 c209 = 9 → ty444 c250 = 10 → ty444 c294 = 11 → ty444 c341 = 12 → ty444 c391 = 13 → ((h443.1 : Int) = h.1 + 12) → ((h443.2.1 : Int) = h.2.1 + 10761) → h443.2.2.2.2 x 2 = .ref c3 → h443.2.2.2.2 x 4 = .ref c23 → h443.2.2.2.2 x 9 = .ref c46 → h443.2.2.2.2 x 10 = .ref c72 → h443.2.2.2.2 x 11 = .ref c101 → h443.2.2.2.2 x 12 = .ref c133 → h443.2.2.2.2 x 13 = .ref c171 → h443.2.2.2.2 x 14 = .ref c209 → h443.2.2.2.2 x 15 = .ref c250 → h443.2.2.2.2 x 25 = .ref c294 → h443.2.2.2.2 x 26 = .ref c341 → h443.2.2.2.2 x 27 = .ref c391 → gNo [1, 14, 15, 16, 17, 18, 19, 20, 21, 22, 23, 24, 25, 26, 27, 28, 29, 30, 31, 32, 33, 34, 35, 36, 37, 38, 39, 40, 41, 42] ty444 → x < h443.1 → h443.2.2.1 x = some (.inr 12) → h443.2.2.2.1 x = 0 → (∀ k, ¬ k ∈ ([27, 26, 25, 15, 14, 13, 12, 11, 10, 9, 4, 2] : List Nat) → h443.2.2.2.2 x k = defaultValue (gGG.2.1 12 k)) → gz gPP gGG gcn (d + 1) gt130 104 [some (.ref x), none, none, none, none] [] h443 (fun q _ => ∃ ty9 : Nat → Nat, gSg [1, 2, 3, 4, 5, 6, 7, 8, 9, 10, 11, 12, 13, 14, 15, 16, 17, 18, 19, 20, 21, 22, 23, 24, 25, 26, 27, 28, 29, 30, 31, 32, 33, 34, 35, 36, 37, 38, 39, 40, 41, 42, 200] [x] [8999, 10999, 31999] ty h ty9 q.2.2 ∧ ∃ ip n1 cw ch iv1 : Int, ty9 x = 1 ∧ gfin gt130 q.1 q.2.1 = some none ∧ q.2.2.2.2.2.2 x 16 = .int (zi ip) ∧ 0 ≤ ip ∧ ip ≤ 1 ∧ q.2.2.2.2.2.2 x 53 = .int (zi n1) ∧ 0 ≤ n1 ∧ n1 ≤ 10 ∧ q.2.2.2.2.2.2 x 50 = .int (zi cw) ∧ 0 ≤ cw ∧ cw ≤ 32 ∧ q.2.2.2.2.2.2 x 51 = .int (zi ch) ∧ 0 ≤ ch ∧ ch ≤ 32 ∧ q.2.2.2.2.2.2 x 52 = .int (zi iv1) ∧ 0 ≤ iv1 ∧ iv1 ≤ 100 ∧ (ip = 0) ∧ (n1 = 0) ∧ (cw = 0) ∧ (ch = 0) ∧ (iv1 = 0) ∧ ((q.2.2.1 : Int) = h.1 + 41) ∧ ((q.2.2.2.1 : Int) = h.2.1 + 88652) ∧ (gTs ty9 0 q.2.2) ∧ (gOyB ty9 26 0 1024 q.2.2) ∧ gUq ty9) := by
  intro fu
  induction fu with
  | zero => intro ty444 h443  hm; exact absurd hm (Nat.not_lt_zero _)
  | succ fu ihlp442 =>
    intro ty444 h443  lp442m lp442G lp442u lp442c0 lp442c1 lp442c2 lp442c3 lp442c4 lp442c5 lp442c6 lp442c7 lp442c8 lp442c9 lp442c10 lp442c11 lp442c12 lp442f0 lp442f1 lp442k0 lp442k1 lp442k2 lp442k3 lp442k4 lp442k5 lp442k6 lp442k7 lp442k8 lp442k9 lp442k10 lp442k11 lp442k12 lp442w0 lp442w1 lp442w2 lp442w3
    have sh443 : gSs rT 1027 ty444 [8999, 10999, 31999] h443 h443 := gSs.rf lp442G.1
    refine gz_s 2 (pc' := 106) (L' := [some (.ref x), none, none, none, none]) (S' := [.int (zi 3), .ref x]) rfl ?_
    refine gs_newr 14 rfl (by decide) rfl sh443.1 (Nat.le_of_lt (Nat.lt_of_le_of_lt (gJ.cell sh443.1 lp442c1 rfl).1 (gJ.cell sh443.1 lp442c1 rfl).2.1)) (by omega) (by omega) rfl rfl (by show (3 : Int) ≤ _; omega) (by show _ ≤ (3 : Int); omega) (fun _ _ => gos_i (by decide) (by decide)) (fun ty445 h446 c447 g448 tc447 lc447 nc447 mc447 ec447 dc447 uc447 => ?_)
    have gac447 : h.1 ≤ c447 := by have h8 := lp442G.2.1; have h9 := sh443.2.1; omega
    have uq449 := uc447 lp442u (Or.inr (gNo.sub (by decide +kernel) lp442k12))
    have G450 : gSg [1, 2, 3, 4, 5, 6, 7, 8, 9, 10, 11, 12, 13, 14, 15, 16, 17, 18, 19, 20, 21, 22, 23, 24, 25, 26, 27, 28, 29, 30, 31, 32, 33, 34, 35, 36, 37, 38, 39, 40, 41, 42, 200] [x] [8999, 10999, 31999] ty h ty445 h446 := gSg.tr (gSg.ss lp442G sh443 (by decide)) g448 (by decide) (by decide) (fun x hx => by cases hx)
    have rw451 := gSg.raw g448 lp442w0 (fun w => by cases w)
    have rf452 := (rw451.2.2.1.trans lp442w1)
    have rf453 := (rw451.2.2.2.trans lp442w2)
    have dd454 := gSg.rawd (ci := 12) (ps := [27, 26, 25, 15, 14, 13, 12, 11, 10, 9, 4, 2]) g448 lp442w0 (fun w => by cases w) lp442c0 (by decide) lp442w3
    have t455 : ty445 x = 200 := rw451.1.trans lp442c0
    have t456 : ty445 c3 = 2 := gSg.typ g448 sh443.1 lp442c1 rTk_2
    have t457 : ty445 c23 = 3 := gSg.typ g448 sh443.1 lp442c2 rTk_3
    have t458 : ty445 c46 = 4 := gSg.typ g448 sh443.1 lp442c3 rTk_4
    have t459 : ty445 c72 = 5 := gSg.typ g448 sh443.1 lp442c4 rTk_5
    have t460 : ty445 c101 = 6 := gSg.typ g448 sh443.1 lp442c5 rTk_6
    have t461 : ty445 c133 = 7 := gSg.typ g448 sh443.1 lp442c6 rTk_7
    have t462 : ty445 c171 = 8 := gSg.typ g448 sh443.1 lp442c7 rTk_8
    have t463 : ty445 c209 = 9 := gSg.typ g448 sh443.1 lp442c8 rTk_9
    have t464 : ty445 c250 = 10 := gSg.typ g448 sh443.1 lp442c9 rTk_10
    have t465 : ty445 c294 = 11 := gSg.typ g448 sh443.1 lp442c10 rTk_11
    have t466 : ty445 c341 = 12 := gSg.typ g448 sh443.1 lp442c11 rTk_12
    have t467 : ty445 c391 = 13 := gSg.typ g448 sh443.1 lp442c12 rTk_13
    have s468 := gSg.rawat g448 lp442w0 (fun w => by cases w) lp442c0 (by decide) lp442k0
    have s469 := gSg.rawat g448 lp442w0 (fun w => by cases w) lp442c0 (by decide) lp442k1
    have s470 := gSg.rawat g448 lp442w0 (fun w => by cases w) lp442c0 (by decide) lp442k2
    have s471 := gSg.rawat g448 lp442w0 (fun w => by cases w) lp442c0 (by decide) lp442k3
    have s472 := gSg.rawat g448 lp442w0 (fun w => by cases w) lp442c0 (by decide) lp442k4
    have s473 := gSg.rawat g448 lp442w0 (fun w => by cases w) lp442c0 (by decide) lp442k5
    have s474 := gSg.rawat g448 lp442w0 (fun w => by cases w) lp442c0 (by decide) lp442k6
    have s475 := gSg.rawat g448 lp442w0 (fun w => by cases w) lp442c0 (by decide) lp442k7
    have s476 := gSg.rawat g448 lp442w0 (fun w => by cases w) lp442c0 (by decide) lp442k8
    have s477 := gSg.rawat g448 lp442w0 (fun w => by cases w) lp442c0 (by decide) lp442k9
    have s478 := gSg.rawat g448 lp442w0 (fun w => by cases w) lp442c0 (by decide) lp442k10
    have s479 := gSg.rawat g448 lp442w0 (fun w => by cases w) lp442c0 (by decide) lp442k11
    have pr480 : gNo [1, 15, 16, 17, 18, 19, 20, 21, 22, 23, 24, 25, 26, 27, 28, 29, 30, 31, 32, 33, 34, 35, 36, 37, 38, 39, 40, 41, 42] ty445 := gNo.gr g448 (by decide +kernel) (gNo.sub (by decide +kernel) lp442k12)
    have sS481 : gSs rT 1027 ty445 [8999, 10999, 31999] h446 h446 := gSs.rf g448.1
    refine gs_rput rfl (by decide) rfl sS481.1 t455 nx rw451.2.1 rf452 rfl (Or.inr rfl) (fun h482 g483 nh482 mh482 kh482 zh482 eh482 fh482 => ?_)
    have G484 : gSg [1, 2, 3, 4, 5, 6, 7, 8, 9, 10, 11, 12, 13, 14, 15, 16, 17, 18, 19, 20, 21, 22, 23, 24, 25, 26, 27, 28, 29, 30, 31, 32, 33, 34, 35, 36, 37, 38, 39, 40, 41, 42, 200] [x] [8999, 10999, 31999] ty h ty445 h482 := gSg.tr (gSg.ss G450 sS481 (by decide)) g483 (by decide) (by decide) (fun x hx => Or.inr hx)
    have sS485 : gSs rT 1027 ty445 [8999, 10999, 31999] h482 h482 := gSs.rf g483.1
    have rf486 := Nat.lt_of_lt_of_eq rw451.2.1 nh482.symm
    have rf487 := zh482.trans rf453
    have dd488 : ∀ k, ¬ k ∈ ([28, 27, 26, 25, 15, 14, 13, 12, 11, 10, 9, 4, 2] : List Nat) → h482.2.2.2.2 x k = defaultValue (gGG.2.1 12 k) := raw_dp fh482 dd454
    have s489 := (fh482 2 (by decide)).trans s468
    have s490 := (fh482 4 (by decide)).trans s469
    have s491 := (fh482 9 (by decide)).trans s470
    have s492 := (fh482 10 (by decide)).trans s471
    have s493 := (fh482 11 (by decide)).trans s472
    have s494 := (fh482 12 (by decide)).trans s473
    have s495 := (fh482 13 (by decide)).trans s474
    have s496 := (fh482 14 (by decide)).trans s475
    have s497 := (fh482 15 (by decide)).trans s476
    have s498 := (fh482 25 (by decide)).trans s477
    have s499 := (fh482 26 (by decide)).trans s478
    have s500 := (fh482 27 (by decide)).trans s479
    clear G450 dd454 rf452 rf453 rw451 s468 s469 s470 s471 s472 s473 s474 s475 s476 s477 s478 s479 sS481
    refine gz_s 2 (pc' := 113) (L' := [some (.ref x), none, none, none, none]) (S' := [.int (zi 3), .ref x]) rfl ?_
    refine gs_newr 15 rfl (by decide) rfl sS485.1 (Nat.le_of_lt (Nat.lt_of_le_of_lt (gJ.cell sS485.1 t456 rfl).1 (gJ.cell sS485.1 t456 rfl).2.1)) (by omega) (by omega) rfl rfl (by show (3 : Int) ≤ _; omega) (by show _ ≤ (3 : Int); omega) (fun _ _ => gos_i (by decide) (by decide)) (fun ty501 h502 c503 g504 tc503 lc503 nc503 mc503 ec503 dc503 uc503 => ?_)
    have gac503 : h.1 ≤ c503 := by have h8 := G484.2.1; have h9 := sS485.2.1; omega
    have uq505 := uc503 uq449 (Or.inr (gNo.sub (by decide +kernel) pr480))
    have G506 : gSg [1, 2, 3, 4, 5, 6, 7, 8, 9, 10, 11, 12, 13, 14, 15, 16, 17, 18, 19, 20, 21, 22, 23, 24, 25, 26, 27, 28, 29, 30, 31, 32, 33, 34, 35, 36, 37, 38, 39, 40, 41, 42, 200] [x] [8999, 10999, 31999] ty h ty501 h502 := gSg.tr (gSg.ss G484 sS485 (by decide)) g504 (by decide) (by decide) (fun x hx => by cases hx)
    have rw507 := gSg.raw g504 rf486 (fun w => by cases w)
    have rf508 := (rw507.2.2.1.trans kh482)
    have rf509 := (rw507.2.2.2.trans rf487)
    have dd510 := gSg.rawd (ci := 12) (ps := [28, 27, 26, 25, 15, 14, 13, 12, 11, 10, 9, 4, 2]) g504 rf486 (fun w => by cases w) t455 (by decide) dd488
    have t511 : ty501 x = 200 := rw507.1.trans t455
    have t512 : ty501 c3 = 2 := gSg.typ g504 sS485.1 t456 rTk_2
    have t513 : ty501 c23 = 3 := gSg.typ g504 sS485.1 t457 rTk_3
    have t514 : ty501 c46 = 4 := gSg.typ g504 sS485.1 t458 rTk_4
    have t515 : ty501 c72 = 5 := gSg.typ g504 sS485.1 t459 rTk_5
    have t516 : ty501 c101 = 6 := gSg.typ g504 sS485.1 t460 rTk_6
    have t517 : ty501 c133 = 7 := gSg.typ g504 sS485.1 t461 rTk_7
    have t518 : ty501 c171 = 8 := gSg.typ g504 sS485.1 t462 rTk_8
    have t519 : ty501 c209 = 9 := gSg.typ g504 sS485.1 t463 rTk_9
    have t520 : ty501 c250 = 10 := gSg.typ g504 sS485.1 t464 rTk_10
    have t521 : ty501 c294 = 11 := gSg.typ g504 sS485.1 t465 rTk_11
    have t522 : ty501 c341 = 12 := gSg.typ g504 sS485.1 t466 rTk_12
    have t523 : ty501 c391 = 13 := gSg.typ g504 sS485.1 t467 rTk_13
    have t524 : ty501 c447 = 14 := gSg.typ g504 sS485.1 tc447 rTk_14
    have s525 := gSg.rawat g504 rf486 (fun w => by cases w) t455 (by decide) s489
    have s526 := gSg.rawat g504 rf486 (fun w => by cases w) t455 (by decide) s490
    have s527 := gSg.rawat g504 rf486 (fun w => by cases w) t455 (by decide) s491
    have s528 := gSg.rawat g504 rf486 (fun w => by cases w) t455 (by decide) s492
    have s529 := gSg.rawat g504 rf486 (fun w => by cases w) t455 (by decide) s493
    have s530 := gSg.rawat g504 rf486 (fun w => by cases w) t455 (by decide) s494
    have s531 := gSg.rawat g504 rf486 (fun w => by cases w) t455 (by decide) s495
    have s532 := gSg.rawat g504 rf486 (fun w => by cases w) t455 (by decide) s496
    have s533 := gSg.rawat g504 rf486 (fun w => by cases w) t455 (by decide) s497
    have s534 := gSg.rawat g504 rf486 (fun w => by cases w) t455 (by decide) s498
    have s535 := gSg.rawat g504 rf486 (fun w => by cases w) t455 (by decide) s499
    have s536 := gSg.rawat g504 rf486 (fun w => by cases w) t455 (by decide) s500
    have s537 := gSg.rawat g504 rf486 (fun w => by cases w) t455 (by decide) eh482
    have pr538 : gNo [1, 16, 17, 18, 19, 20, 21, 22, 23, 24, 25, 26, 27, 28, 29, 30, 31, 32, 33, 34, 35, 36, 37, 38, 39, 40, 41, 42] ty501 := gNo.gr g504 (by decide +kernel) (gNo.sub (by decide +kernel) pr480)
    have sS539 : gSs rT 1027 ty501 [8999, 10999, 31999] h502 h502 := gSs.rf g504.1
    clear G484 dd488 pr480 rf486 rf487 s489 s490 s491 s492 s493 s494 s495 s496 s497 s498 s499 s500 sS485 t455 t456 t457 t458 t459 t460 t461 t462 t463 t464 t465 t466 t467 uq449
    refine gs_rput rfl (by decide) rfl sS539.1 t511 nx rw507.2.1 rf508 rfl (Or.inr rfl) (fun h540 g541 nh540 mh540 kh540 zh540 eh540 fh540 => ?_)
    have G542 : gSg [1, 2, 3, 4, 5, 6, 7, 8, 9, 10, 11, 12, 13, 14, 15, 16, 17, 18, 19, 20, 21, 22, 23, 24, 25, 26, 27, 28, 29, 30, 31, 32, 33, 34, 35, 36, 37, 38, 39, 40, 41, 42, 200] [x] [8999, 10999, 31999] ty h ty501 h540 := gSg.tr (gSg.ss G506 sS539 (by decide)) g541 (by decide) (by decide) (fun x hx => Or.inr hx)
    have sS543 : gSs rT 1027 ty501 [8999, 10999, 31999] h540 h540 := gSs.rf g541.1
    have rf544 := Nat.lt_of_lt_of_eq rw507.2.1 nh540.symm
    have rf545 := zh540.trans rf509
    have dd546 : ∀ k, ¬ k ∈ ([29, 28, 27, 26, 25, 15, 14, 13, 12, 11, 10, 9, 4, 2] : List Nat) → h540.2.2.2.2 x k = defaultValue (gGG.2.1 12 k) := raw_dp fh540 dd510
    have s547 := (fh540 2 (by decide)).trans s525
    have s548 := (fh540 4 (by decide)).trans s526
    have s549 := (fh540 9 (by decide)).trans s527
    have s550 := (fh540 10 (by decide)).trans s528
    have s551 := (fh540 11 (by decide)).trans s529
    have s552 := (fh540 12 (by decide)).trans s530
    have s553 := (fh540 13 (by decide)).trans s531
    have s554 := (fh540 14 (by decide)).trans s532
    have s555 := (fh540 15 (by decide)).trans s533
    have s556 := (fh540 25 (by decide)).trans s534
    have s557 := (fh540 26 (by decide)).trans s535
    have s558 := (fh540 27 (by decide)).trans s536
    have s559 := (fh540 28 (by decide)).trans s537
    clear G506 dd510 rf508 rf509 rw507 s525 s526 s527 s528 s529 s530 s531 s532 s533 s534 s535 s536 s537 sS539
    refine gz_s 2 (pc' := 120) (L' := [some (.ref x), none, none, none, none]) (S' := [.int (zi 3), .ref x]) rfl ?_
    refine gs_newr 16 rfl (by decide) rfl sS543.1 (Nat.le_of_lt (Nat.lt_of_le_of_lt (gJ.cell sS543.1 t512 rfl).1 (gJ.cell sS543.1 t512 rfl).2.1)) (by omega) (by omega) rfl rfl (by show (3 : Int) ≤ _; omega) (by show _ ≤ (3 : Int); omega) (fun _ _ => gos_i (by decide) (by decide)) (fun ty560 h561 c562 g563 tc562 lc562 nc562 mc562 ec562 dc562 uc562 => ?_)
    have gac562 : h.1 ≤ c562 := by have h8 := G542.2.1; have h9 := sS543.2.1; omega
    have uq564 := uc562 uq505 (Or.inr (gNo.sub (by decide +kernel) pr538))
    have G565 : gSg [1, 2, 3, 4, 5, 6, 7, 8, 9, 10, 11, 12, 13, 14, 15, 16, 17, 18, 19, 20, 21, 22, 23, 24, 25, 26, 27, 28, 29, 30, 31, 32, 33, 34, 35, 36, 37, 38, 39, 40, 41, 42, 200] [x] [8999, 10999, 31999] ty h ty560 h561 := gSg.tr (gSg.ss G542 sS543 (by decide)) g563 (by decide) (by decide) (fun x hx => by cases hx)
    have rw566 := gSg.raw g563 rf544 (fun w => by cases w)
    have rf567 := (rw566.2.2.1.trans kh540)
    have rf568 := (rw566.2.2.2.trans rf545)
    have dd569 := gSg.rawd (ci := 12) (ps := [29, 28, 27, 26, 25, 15, 14, 13, 12, 11, 10, 9, 4, 2]) g563 rf544 (fun w => by cases w) t511 (by decide) dd546
    have t570 : ty560 x = 200 := rw566.1.trans t511
    have t571 : ty560 c3 = 2 := gSg.typ g563 sS543.1 t512 rTk_2
    have t572 : ty560 c23 = 3 := gSg.typ g563 sS543.1 t513 rTk_3
    have t573 : ty560 c46 = 4 := gSg.typ g563 sS543.1 t514 rTk_4
    have t574 : ty560 c72 = 5 := gSg.typ g563 sS543.1 t515 rTk_5
    have t575 : ty560 c101 = 6 := gSg.typ g563 sS543.1 t516 rTk_6
    have t576 : ty560 c133 = 7 := gSg.typ g563 sS543.1 t517 rTk_7
    have t577 : ty560 c171 = 8 := gSg.typ g563 sS543.1 t518 rTk_8
    have t578 : ty560 c209 = 9 := gSg.typ g563 sS543.1 t519 rTk_9
    have t579 : ty560 c250 = 10 := gSg.typ g563 sS543.1 t520 rTk_10
    have t580 : ty560 c294 = 11 := gSg.typ g563 sS543.1 t521 rTk_11
    have t581 : ty560 c341 = 12 := gSg.typ g563 sS543.1 t522 rTk_12
    have t582 : ty560 c391 = 13 := gSg.typ g563 sS543.1 t523 rTk_13
    have t583 : ty560 c447 = 14 := gSg.typ g563 sS543.1 t524 rTk_14
    have t584 : ty560 c503 = 15 := gSg.typ g563 sS543.1 tc503 rTk_15
    have s585 := gSg.rawat g563 rf544 (fun w => by cases w) t511 (by decide) s547
    have s586 := gSg.rawat g563 rf544 (fun w => by cases w) t511 (by decide) s548
    have s587 := gSg.rawat g563 rf544 (fun w => by cases w) t511 (by decide) s549
    have s588 := gSg.rawat g563 rf544 (fun w => by cases w) t511 (by decide) s550
    have s589 := gSg.rawat g563 rf544 (fun w => by cases w) t511 (by decide) s551
    have s590 := gSg.rawat g563 rf544 (fun w => by cases w) t511 (by decide) s552
    have s591 := gSg.rawat g563 rf544 (fun w => by cases w) t511 (by decide) s553
    have s592 := gSg.rawat g563 rf544 (fun w => by cases w) t511 (by decide) s554
    have s593 := gSg.rawat g563 rf544 (fun w => by cases w) t511 (by decide) s555
    have s594 := gSg.rawat g563 rf544 (fun w => by cases w) t511 (by decide) s556
    have s595 := gSg.rawat g563 rf544 (fun w => by cases w) t511 (by decide) s557
    have s596 := gSg.rawat g563 rf544 (fun w => by cases w) t511 (by decide) s558
    have s597 := gSg.rawat g563 rf544 (fun w => by cases w) t511 (by decide) s559
    have s598 := gSg.rawat g563 rf544 (fun w => by cases w) t511 (by decide) eh540
    have pr599 : gNo [1, 17, 18, 19, 20, 21, 22, 23, 24, 25, 26, 27, 28, 29, 30, 31, 32, 33, 34, 35, 36, 37, 38, 39, 40, 41, 42] ty560 := gNo.gr g563 (by decide +kernel) (gNo.sub (by decide +kernel) pr538)
    have sS600 : gSs rT 1027 ty560 [8999, 10999, 31999] h561 h561 := gSs.rf g563.1
    clear G542 dd546 pr538 rf544 rf545 s547 s548 s549 s550 s551 s552 s553 s554 s555 s556 s557 s558 s559 sS543 t511 t512 t513 t514 t515 t516 t517 t518 t519 t520 t521 t522 t523 t524 uq505
    refine gs_rput rfl (by decide) rfl sS600.1 t570 nx rw566.2.1 rf567 rfl (Or.inr rfl) (fun h601 g602 nh601 mh601 kh601 zh601 eh601 fh601 => ?_)
    have G603 : gSg [1, 2, 3, 4, 5, 6, 7, 8, 9, 10, 11, 12, 13, 14, 15, 16, 17, 18, 19, 20, 21, 22, 23, 24, 25, 26, 27, 28, 29, 30, 31, 32, 33, 34, 35, 36, 37, 38, 39, 40, 41, 42, 200] [x] [8999, 10999, 31999] ty h ty560 h601 := gSg.tr (gSg.ss G565 sS600 (by decide)) g602 (by decide) (by decide) (fun x hx => Or.inr hx)
    have sS604 : gSs rT 1027 ty560 [8999, 10999, 31999] h601 h601 := gSs.rf g602.1
    have rf605 := Nat.lt_of_lt_of_eq rw566.2.1 nh601.symm
    have rf606 := zh601.trans rf568
    have dd607 : ∀ k, ¬ k ∈ ([30, 29, 28, 27, 26, 25, 15, 14, 13, 12, 11, 10, 9, 4, 2] : List Nat) → h601.2.2.2.2 x k = defaultValue (gGG.2.1 12 k) := raw_dp fh601 dd569
    have s608 := (fh601 2 (by decide)).trans s585
    have s609 := (fh601 4 (by decide)).trans s586
    have s610 := (fh601 9 (by decide)).trans s587
    have s611 := (fh601 10 (by decide)).trans s588
    have s612 := (fh601 11 (by decide)).trans s589
    have s613 := (fh601 12 (by decide)).trans s590
    have s614 := (fh601 13 (by decide)).trans s591
    have s615 := (fh601 14 (by decide)).trans s592
    have s616 := (fh601 15 (by decide)).trans s593
    have s617 := (fh601 25 (by decide)).trans s594
    have s618 := (fh601 26 (by decide)).trans s595
    have s619 := (fh601 27 (by decide)).trans s596
    have s620 := (fh601 28 (by decide)).trans s597
    have s621 := (fh601 29 (by decide)).trans s598
    clear G565 dd569 rf567 rf568 rw566 s585 s586 s587 s588 s589 s590 s591 s592 s593 s594 s595 s596 s597 s598 sS600
    refine gz_s 2 (pc' := 127) (L' := [some (.ref x), none, none, none, none]) (S' := [.int (zi 3), .ref x]) rfl ?_
    refine gs_newr 17 rfl (by decide) rfl sS604.1 (Nat.le_of_lt (Nat.lt_of_le_of_lt (gJ.cell sS604.1 t571 rfl).1 (gJ.cell sS604.1 t571 rfl).2.1)) (by omega) (by omega) rfl rfl (by show (3 : Int) ≤ _; omega) (by show _ ≤ (3 : Int); omega) (fun _ _ => gos_i (by decide) (by decide)) (fun ty622 h623 c624 g625 tc624 lc624 nc624 mc624 ec624 dc624 uc624 => ?_)
    have gac624 : h.1 ≤ c624 := by have h8 := G603.2.1; have h9 := sS604.2.1; omega
    have uq626 := uc624 uq564 (Or.inr (gNo.sub (by decide +kernel) pr599))
    have G627 : gSg [1, 2, 3, 4, 5, 6, 7, 8, 9, 10, 11, 12, 13, 14, 15, 16, 17, 18, 19, 20, 21, 22, 23, 24, 25, 26, 27, 28, 29, 30, 31, 32, 33, 34, 35, 36, 37, 38, 39, 40, 41, 42, 200] [x] [8999, 10999, 31999] ty h ty622 h623 := gSg.tr (gSg.ss G603 sS604 (by decide)) g625 (by decide) (by decide) (fun x hx => by cases hx)
    have rw628 := gSg.raw g625 rf605 (fun w => by cases w)
    have rf629 := (rw628.2.2.1.trans kh601)
    have rf630 := (rw628.2.2.2.trans rf606)
    have dd631 := gSg.rawd (ci := 12) (ps := [30, 29, 28, 27, 26, 25, 15, 14, 13, 12, 11, 10, 9, 4, 2]) g625 rf605 (fun w => by cases w) t570 (by decide) dd607
    have t632 : ty622 x = 200 := rw628.1.trans t570
    have t633 : ty622 c3 = 2 := gSg.typ g625 sS604.1 t571 rTk_2
    have t634 : ty622 c23 = 3 := gSg.typ g625 sS604.1 t572 rTk_3
    have t635 : ty622 c46 = 4 := gSg.typ g625 sS604.1 t573 rTk_4
    have t636 : ty622 c72 = 5 := gSg.typ g625 sS604.1 t574 rTk_5
    have t637 : ty622 c101 = 6 := gSg.typ g625 sS604.1 t575 rTk_6
    have t638 : ty622 c133 = 7 := gSg.typ g625 sS604.1 t576 rTk_7
    have t639 : ty622 c171 = 8 := gSg.typ g625 sS604.1 t577 rTk_8
    have t640 : ty622 c209 = 9 := gSg.typ g625 sS604.1 t578 rTk_9
    have t641 : ty622 c250 = 10 := gSg.typ g625 sS604.1 t579 rTk_10
    have t642 : ty622 c294 = 11 := gSg.typ g625 sS604.1 t580 rTk_11
    have t643 : ty622 c341 = 12 := gSg.typ g625 sS604.1 t581 rTk_12
    have t644 : ty622 c391 = 13 := gSg.typ g625 sS604.1 t582 rTk_13
    have t645 : ty622 c447 = 14 := gSg.typ g625 sS604.1 t583 rTk_14
    have t646 : ty622 c503 = 15 := gSg.typ g625 sS604.1 t584 rTk_15
    have t647 : ty622 c562 = 16 := gSg.typ g625 sS604.1 tc562 rTk_16
    have s648 := gSg.rawat g625 rf605 (fun w => by cases w) t570 (by decide) s608
    have s649 := gSg.rawat g625 rf605 (fun w => by cases w) t570 (by decide) s609
    have s650 := gSg.rawat g625 rf605 (fun w => by cases w) t570 (by decide) s610
    have s651 := gSg.rawat g625 rf605 (fun w => by cases w) t570 (by decide) s611
    have s652 := gSg.rawat g625 rf605 (fun w => by cases w) t570 (by decide) s612
    have s653 := gSg.rawat g625 rf605 (fun w => by cases w) t570 (by decide) s613
    have s654 := gSg.rawat g625 rf605 (fun w => by cases w) t570 (by decide) s614
    have s655 := gSg.rawat g625 rf605 (fun w => by cases w) t570 (by decide) s615
    have s656 := gSg.rawat g625 rf605 (fun w => by cases w) t570 (by decide) s616
    have s657 := gSg.rawat g625 rf605 (fun w => by cases w) t570 (by decide) s617
    have s658 := gSg.rawat g625 rf605 (fun w => by cases w) t570 (by decide) s618
    have s659 := gSg.rawat g625 rf605 (fun w => by cases w) t570 (by decide) s619
    have s660 := gSg.rawat g625 rf605 (fun w => by cases w) t570 (by decide) s620
    have s661 := gSg.rawat g625 rf605 (fun w => by cases w) t570 (by decide) s621
    have s662 := gSg.rawat g625 rf605 (fun w => by cases w) t570 (by decide) eh601
    have pr663 : gNo [1, 18, 19, 20, 21, 22, 23, 24, 25, 26, 27, 28, 29, 30, 31, 32, 33, 34, 35, 36, 37, 38, 39, 40, 41, 42] ty622 := gNo.gr g625 (by decide +kernel) (gNo.sub (by decide +kernel) pr599)
    have sS664 : gSs rT 1027 ty622 [8999, 10999, 31999] h623 h623 := gSs.rf g625.1
    clear G603 dd607 pr599 rf605 rf606 s608 s609 s610 s611 s612 s613 s614 s615 s616 s617 s618 s619 s620 s621 sS604 t570 t571 t572 t573 t574 t575 t576 t577 t578 t579 t580 t581 t582 t583 t584 uq564
    refine gs_rput rfl (by decide) rfl sS664.1 t632 nx rw628.2.1 rf629 rfl (Or.inr rfl) (fun h665 g666 nh665 mh665 kh665 zh665 eh665 fh665 => ?_)
    have G667 : gSg [1, 2, 3, 4, 5, 6, 7, 8, 9, 10, 11, 12, 13, 14, 15, 16, 17, 18, 19, 20, 21, 22, 23, 24, 25, 26, 27, 28, 29, 30, 31, 32, 33, 34, 35, 36, 37, 38, 39, 40, 41, 42, 200] [x] [8999, 10999, 31999] ty h ty622 h665 := gSg.tr (gSg.ss G627 sS664 (by decide)) g666 (by decide) (by decide) (fun x hx => Or.inr hx)
    have sS668 : gSs rT 1027 ty622 [8999, 10999, 31999] h665 h665 := gSs.rf g666.1
    have rf669 := Nat.lt_of_lt_of_eq rw628.2.1 nh665.symm
    have rf670 := zh665.trans rf630
    have dd671 : ∀ k, ¬ k ∈ ([31, 30, 29, 28, 27, 26, 25, 15, 14, 13, 12, 11, 10, 9, 4, 2] : List Nat) → h665.2.2.2.2 x k = defaultValue (gGG.2.1 12 k) := raw_dp fh665 dd631
    have s672 := (fh665 2 (by decide)).trans s648
    have s673 := (fh665 4 (by decide)).trans s649
    have s674 := (fh665 9 (by decide)).trans s650
    have s675 := (fh665 10 (by decide)).trans s651
    have s676 := (fh665 11 (by decide)).trans s652
    have s677 := (fh665 12 (by decide)).trans s653
    have s678 := (fh665 13 (by decide)).trans s654
    have s679 := (fh665 14 (by decide)).trans s655
    have s680 := (fh665 15 (by decide)).trans s656
    have s681 := (fh665 25 (by decide)).trans s657
    have s682 := (fh665 26 (by decide)).trans s658
    have s683 := (fh665 27 (by decide)).trans s659
    have s684 := (fh665 28 (by decide)).trans s660
    have s685 := (fh665 29 (by decide)).trans s661
    have s686 := (fh665 30 (by decide)).trans s662
    clear G627 dd631 rf629 rf630 rw628 s648 s649 s650 s651 s652 s653 s654 s655 s656 s657 s658 s659 s660 s661 s662 sS664
    refine gz_s 2 (pc' := 134) (L' := [some (.ref x), none, none, none, none]) (S' := [.int (zi 3), .ref x]) rfl ?_
    refine gs_newr 18 rfl (by decide) rfl sS668.1 (Nat.le_of_lt (Nat.lt_of_le_of_lt (gJ.cell sS668.1 t633 rfl).1 (gJ.cell sS668.1 t633 rfl).2.1)) (by omega) (by omega) rfl rfl (by show (3 : Int) ≤ _; omega) (by show _ ≤ (3 : Int); omega) (fun _ _ => gos_i (by decide) (by decide)) (fun ty687 h688 c689 g690 tc689 lc689 nc689 mc689 ec689 dc689 uc689 => ?_)
    have gac689 : h.1 ≤ c689 := by have h8 := G667.2.1; have h9 := sS668.2.1; omega
    have uq691 := uc689 uq626 (Or.inr (gNo.sub (by decide +kernel) pr663))
    have G692 : gSg [1, 2, 3, 4, 5, 6, 7, 8, 9, 10, 11, 12, 13, 14, 15, 16, 17, 18, 19, 20, 21, 22, 23, 24, 25, 26, 27, 28, 29, 30, 31, 32, 33, 34, 35, 36, 37, 38, 39, 40, 41, 42, 200] [x] [8999, 10999, 31999] ty h ty687 h688 := gSg.tr (gSg.ss G667 sS668 (by decide)) g690 (by decide) (by decide) (fun x hx => by cases hx)
    have rw693 := gSg.raw g690 rf669 (fun w => by cases w)
    have rf694 := (rw693.2.2.1.trans kh665)
    have rf695 := (rw693.2.2.2.trans rf670)
    have dd696 := gSg.rawd (ci := 12) (ps := [31, 30, 29, 28, 27, 26, 25, 15, 14, 13, 12, 11, 10, 9, 4, 2]) g690 rf669 (fun w => by cases w) t632 (by decide) dd671
    have t697 : ty687 x = 200 := rw693.1.trans t632
    have t698 : ty687 c3 = 2 := gSg.typ g690 sS668.1 t633 rTk_2
    have t699 : ty687 c23 = 3 := gSg.typ g690 sS668.1 t634 rTk_3
    have t700 : ty687 c46 = 4 := gSg.typ g690 sS668.1 t635 rTk_4
    have t701 : ty687 c72 = 5 := gSg.typ g690 sS668.1 t636 rTk_5
    have t702 : ty687 c101 = 6 := gSg.typ g690 sS668.1 t637 rTk_6
    have t703 : ty687 c133 = 7 := gSg.typ g690 sS668.1 t638 rTk_7
    have t704 : ty687 c171 = 8 := gSg.typ g690 sS668.1 t639 rTk_8
    have t705 : ty687 c209 = 9 := gSg.typ g690 sS668.1 t640 rTk_9
    have t706 : ty687 c250 = 10 := gSg.typ g690 sS668.1 t641 rTk_10
    have t707 : ty687 c294 = 11 := gSg.typ g690 sS668.1 t642 rTk_11
    have t708 : ty687 c341 = 12 := gSg.typ g690 sS668.1 t643 rTk_12
    have t709 : ty687 c391 = 13 := gSg.typ g690 sS668.1 t644 rTk_13
    have t710 : ty687 c447 = 14 := gSg.typ g690 sS668.1 t645 rTk_14
    have t711 : ty687 c503 = 15 := gSg.typ g690 sS668.1 t646 rTk_15
    have t712 : ty687 c562 = 16 := gSg.typ g690 sS668.1 t647 rTk_16
    have t713 : ty687 c624 = 17 := gSg.typ g690 sS668.1 tc624 rTk_17
    have s714 := gSg.rawat g690 rf669 (fun w => by cases w) t632 (by decide) s672
    have s715 := gSg.rawat g690 rf669 (fun w => by cases w) t632 (by decide) s673
    have s716 := gSg.rawat g690 rf669 (fun w => by cases w) t632 (by decide) s674
    have s717 := gSg.rawat g690 rf669 (fun w => by cases w) t632 (by decide) s675
    have s718 := gSg.rawat g690 rf669 (fun w => by cases w) t632 (by decide) s676
    have s719 := gSg.rawat g690 rf669 (fun w => by cases w) t632 (by decide) s677
    have s720 := gSg.rawat g690 rf669 (fun w => by cases w) t632 (by decide) s678
    have s721 := gSg.rawat g690 rf669 (fun w => by cases w) t632 (by decide) s679
    have s722 := gSg.rawat g690 rf669 (fun w => by cases w) t632 (by decide) s680
    have s723 := gSg.rawat g690 rf669 (fun w => by cases w) t632 (by decide) s681
    have s724 := gSg.rawat g690 rf669 (fun w => by cases w) t632 (by decide) s682
    have s725 := gSg.rawat g690 rf669 (fun w => by cases w) t632 (by decide) s683
    have s726 := gSg.rawat g690 rf669 (fun w => by cases w) t632 (by decide) s684
    have s727 := gSg.rawat g690 rf669 (fun w => by cases w) t632 (by decide) s685
    have s728 := gSg.rawat g690 rf669 (fun w => by cases w) t632 (by decide) s686
    have s729 := gSg.rawat g690 rf669 (fun w => by cases w) t632 (by decide) eh665
    have pr730 : gNo [1, 19, 20, 21, 22, 23, 24, 25, 26, 27, 28, 29, 30, 31, 32, 33, 34, 35, 36, 37, 38, 39, 40, 41, 42] ty687 := gNo.gr g690 (by decide +kernel) (gNo.sub (by decide +kernel) pr663)
    have sS731 : gSs rT 1027 ty687 [8999, 10999, 31999] h688 h688 := gSs.rf g690.1
    clear G667 dd671 pr663 rf669 rf670 s672 s673 s674 s675 s676 s677 s678 s679 s680 s681 s682 s683 s684 s685 s686 sS668 t632 t633 t634 t635 t636 t637 t638 t639 t640 t641 t642 t643 t644 t645 t646 t647 uq626
    refine gs_rput rfl (by decide) rfl sS731.1 t697 nx rw693.2.1 rf694 rfl (Or.inr rfl) (fun h732 g733 nh732 mh732 kh732 zh732 eh732 fh732 => ?_)
    have G734 : gSg [1, 2, 3, 4, 5, 6, 7, 8, 9, 10, 11, 12, 13, 14, 15, 16, 17, 18, 19, 20, 21, 22, 23, 24, 25, 26, 27, 28, 29, 30, 31, 32, 33, 34, 35, 36, 37, 38, 39, 40, 41, 42, 200] [x] [8999, 10999, 31999] ty h ty687 h732 := gSg.tr (gSg.ss G692 sS731 (by decide)) g733 (by decide) (by decide) (fun x hx => Or.inr hx)
    have sS735 : gSs rT 1027 ty687 [8999, 10999, 31999] h732 h732 := gSs.rf g733.1
    have rf736 := Nat.lt_of_lt_of_eq rw693.2.1 nh732.symm
    have rf737 := zh732.trans rf695
    have dd738 : ∀ k, ¬ k ∈ ([32, 31, 30, 29, 28, 27, 26, 25, 15, 14, 13, 12, 11, 10, 9, 4, 2] : List Nat) → h732.2.2.2.2 x k = defaultValue (gGG.2.1 12 k) := raw_dp fh732 dd696
    have s739 := (fh732 2 (by decide)).trans s714
    have s740 := (fh732 4 (by decide)).trans s715
    have s741 := (fh732 9 (by decide)).trans s716
    have s742 := (fh732 10 (by decide)).trans s717
    have s743 := (fh732 11 (by decide)).trans s718
    have s744 := (fh732 12 (by decide)).trans s719
    have s745 := (fh732 13 (by decide)).trans s720
    have s746 := (fh732 14 (by decide)).trans s721
    have s747 := (fh732 15 (by decide)).trans s722
    have s748 := (fh732 25 (by decide)).trans s723
    have s749 := (fh732 26 (by decide)).trans s724
    have s750 := (fh732 27 (by decide)).trans s725
    have s751 := (fh732 28 (by decide)).trans s726
    have s752 := (fh732 29 (by decide)).trans s727
    have s753 := (fh732 30 (by decide)).trans s728
    have s754 := (fh732 31 (by decide)).trans s729
    clear G692 dd696 rf694 rf695 rw693 s714 s715 s716 s717 s718 s719 s720 s721 s722 s723 s724 s725 s726 s727 s728 s729 sS731
    have lp755 := cmlp755 d hJ x nx c3 c23 c46 c72 c101 c133 c171 c209 c250 c294 c341 c391 c447 c503 c562 c624 c689
    have G3612 : gSg [1, 2, 3, 4, 5, 6, 7, 8, 9, 10, 11, 12, 13, 14, 15, 16, 17, 18, 19, 20, 21, 22, 23, 24, 25, 26, 27, 28, 29, 30, 31, 32, 33, 34, 35, 36, 37, 38, 39, 40, 41, 42, 200] [x] [8999, 10999, 31999] ty h ty687 h732 := gSg.ss G734 sS735 (by decide)
    exact gz_wk (lp755 _ ty687 h732  (Nat.lt_succ_self _) G3612 uq691 t697 t698 t699 t700 t701 t702 t703 t704 t705 t706 t707 t708 t709 t710 t711 t712 t713 tc689 (by omega) (by omega) s739 s740 s741 s742 s743 s744 s745 s746 s747 s748 s749 s750 s751 s752 s753 s754 eh732 pr730 rf736 kh732 rf737 dd738) (gLw.s (gLw.n (gLw.n (gLw.n (gLw.n gLw.z)))))
set_option maxRecDepth 20000 in
set_option maxHeartbeats 4000000 in
theorem cmlp166 (d : Nat) {ty : Nat → Nat} {h : gH} (hJ : gJ rT 1027 ty h) (x : Nat) (nx : 1027 ≤ x) (c3 c23 c46 c72 c101 c133 : Nat) : ∀ (fu : Nat) (ty168 : Nat → Nat) (h167 : gH), ((1 : Int)).toNat < fu → gSg [1, 2, 3, 4, 5, 6, 7, 8, 9, 10, 11, 12, 13, 14, 15, 16, 17, 18, 19, 20, 21, 22, 23, 24, 25, 26, 27, 28, 29, 30, 31, 32, 33, 34, 35, 36, 37, 38, 39, 40, 41, 42, 200] [x] [8999, 10999, 31999] ty h ty168 h167 → gUq ty168 → ty168 x = 200 → ty168 c3 = 2 → ty168 c23 = 3 → ty168 c46 = 4 → ty168 c72 = 5 → ty168 c101 = 6 → ty168 c133 = 7 → ((h167.1 : Int) = h.1 + 6) → ((h167.2.1 : Int) = h.2.1 + 10176) → h167.2.2.2.2 x 2 = .ref c3 → h167.2.2.2.2 x 4 = .ref c23 → h167.2.2.2.2 x 9 = .ref c46 → h167.2.2.2.2 x 10 = .ref c72 → h167.2.2.2.2 x 11 = .ref c101 → h167.2.2.2.2 x 12 = .ref c133 → gNo [1, 8, 9, 10, 11, 12, 13, 14, 15, 16, 17, 18, 19, 20, 21, 22, 23, 24, 25, 26, 27, 28, 29, 30, 31, 32, 33, 34, 35, 36, 37, 38, 39, 40, 41, 42] ty168 → x < h167.1 → h167.2.2.1 x = some (.inr 12) → h167.2.2.2.1 x = 0 → (∀ k, ¬ k ∈ ([12, 11, 10, 9, 4, 2] : List Nat) → h167.2.2.2.2 x k = defaultValue (gGG.2.1 12 k)) → gz gPP gGG gcn (d + 1) gt130 57 [some (.ref x), none, none, none, none] [] h167 (fun q _ => ∃ ty9 : Nat → Nat, gSg [1, 2, 3, 4, 5, 6, 7, 8, 9, 10, 11, 12, 13, 14, 15, 16, 17, 18, 19, 20, 21, 22, 23, 24, 25, 26, 27, 28, 29, 30, 31, 32, 33, 34, 35, 36, 37, 38, 39, 40, 41, 42, 200] [x] [8999, 10999, 31999] ty h ty9 q.2.2 ∧ ∃ ip n1 cw ch iv1 : Int, ty9 x = 1 ∧ gfin gt130 q.1 q.2.1 = some none ∧ q.2.2.2.2.2.2 x 16 = .int (zi ip) ∧ 0 ≤ ip ∧ ip ≤ 1 ∧ q.2.2.2.2.2.2 x 53 = .int (zi n1) ∧ 0 ≤ n1 ∧ n1 ≤ 10 ∧ q.2.2.2.2.2.2 x 50 = .int (zi cw) ∧ 0 ≤ cw ∧ cw ≤ 32 ∧ q.2.2.2.2.2.2 x 51 = .int (zi ch) ∧ 0 ≤ ch ∧ ch ≤ 32 ∧ q.2.2.2.2.2.2 x 52 = .int (zi iv1) ∧ 0 ≤ iv1 ∧ iv1 ≤ 100 ∧ (ip = 0) ∧ (n1 = 0) ∧ (cw = 0) ∧ (ch = 0) ∧ (iv1 = 0) ∧ ((q.2.2.1 : Int) = h.1 + 41) ∧ ((q.2.2.2.1 : Int) = h.2.1 + 88652) ∧ (gTs ty9 0 q.2.2) ∧ (gOyB ty9 26 0 1024 q.2.2) ∧ gUq ty9) := by
  intro fu
  induction fu with
  | zero => intro ty168 h167  hm; exact absurd hm (Nat.not_lt_zero _)
  | succ fu ihlp166 =>
    intro ty168 h167  lp166m lp166G lp166u lp166c0 lp166c1 lp166c2 lp166c3 lp166c4 lp166c5 lp166c6 lp166f0 lp166f1 lp166k0 lp166k1 lp166k2 lp166k3 lp166k4 lp166k5 lp166k6 lp166w0 lp166w1 lp166w2 lp166w3
    have sh167 : gSs rT 1027 ty168 [8999, 10999, 31999] h167 h167 := gSs.rf lp166G.1
    refine gz_s 2 (pc' := 61) (L' := [some (.ref x), none, none, none, none]) (S' := [.int (zi 256), .ref x]) rfl ?_
    refine gs_newr 8 rfl (by decide) rfl sh167.1 (Nat.le_of_lt (Nat.lt_of_le_of_lt (gJ.cell sh167.1 lp166c1 rfl).1 (gJ.cell sh167.1 lp166c1 rfl).2.1)) (by omega) (by omega) rfl rfl (by show (256 : Int) ≤ _; omega) (by show _ ≤ (256 : Int); omega) (fun _ _ => gos_i (by decide) (by decide)) (fun ty169 h170 c171 g172 tc171 lc171 nc171 mc171 ec171 dc171 uc171 => ?_)
    have gac171 : h.1 ≤ c171 := by have h8 := lp166G.2.1; have h9 := sh167.2.1; omega
    have uq173 := uc171 lp166u (Or.inr (gNo.sub (by decide +kernel) lp166k6))
    have G174 : gSg [1, 2, 3, 4, 5, 6, 7, 8, 9, 10, 11, 12, 13, 14, 15, 16, 17, 18, 19, 20, 21, 22, 23, 24, 25, 26, 27, 28, 29, 30, 31, 32, 33, 34, 35, 36, 37, 38, 39, 40, 41, 42, 200] [x] [8999, 10999, 31999] ty h ty169 h170 := gSg.tr (gSg.ss lp166G sh167 (by decide)) g172 (by decide) (by decide) (fun x hx => by cases hx)
    have rw175 := gSg.raw g172 lp166w0 (fun w => by cases w)
    have rf176 := (rw175.2.2.1.trans lp166w1)
    have rf177 := (rw175.2.2.2.trans lp166w2)
    have dd178 := gSg.rawd (ci := 12) (ps := [12, 11, 10, 9, 4, 2]) g172 lp166w0 (fun w => by cases w) lp166c0 (by decide) lp166w3
    have t179 : ty169 x = 200 := rw175.1.trans lp166c0
    have t180 : ty169 c3 = 2 := gSg.typ g172 sh167.1 lp166c1 rTk_2
    have t181 : ty169 c23 = 3 := gSg.typ g172 sh167.1 lp166c2 rTk_3
    have t182 : ty169 c46 = 4 := gSg.typ g172 sh167.1 lp166c3 rTk_4
    have t183 : ty169 c72 = 5 := gSg.typ g172 sh167.1 lp166c4 rTk_5
    have t184 : ty169 c101 = 6 := gSg.typ g172 sh167.1 lp166c5 rTk_6
    have t185 : ty169 c133 = 7 := gSg.typ g172 sh167.1 lp166c6 rTk_7
    have s186 := gSg.rawat g172 lp166w0 (fun w => by cases w) lp166c0 (by decide) lp166k0
    have s187 := gSg.rawat g172 lp166w0 (fun w => by cases w) lp166c0 (by decide) lp166k1
    have s188 := gSg.rawat g172 lp166w0 (fun w => by cases w) lp166c0 (by decide) lp166k2
    have s189 := gSg.rawat g172 lp166w0 (fun w => by cases w) lp166c0 (by decide) lp166k3
    have s190 := gSg.rawat g172 lp166w0 (fun w => by cases w) lp166c0 (by decide) lp166k4
    have s191 := gSg.rawat g172 lp166w0 (fun w => by cases w) lp166c0 (by decide) lp166k5
    have pr192 : gNo [1, 9, 10, 11, 12, 13, 14, 15, 16, 17, 18, 19, 20, 21, 22, 23, 24, 25, 26, 27, 28, 29, 30, 31, 32, 33, 34, 35, 36, 37, 38, 39, 40, 41, 42] ty169 := gNo.gr g172 (by decide +kernel) (gNo.sub (by decide +kernel) lp166k6)
    have sS193 : gSs rT 1027 ty169 [8999, 10999, 31999] h170 h170 := gSs.rf g172.1
    refine gs_rput rfl (by decide) rfl sS193.1 t179 nx rw175.2.1 rf176 rfl (Or.inr rfl) (fun h194 g195 nh194 mh194 kh194 zh194 eh194 fh194 => ?_)
    have G196 : gSg [1, 2, 3, 4, 5, 6, 7, 8, 9, 10, 11, 12, 13, 14, 15, 16, 17, 18, 19, 20, 21, 22, 23, 24, 25, 26, 27, 28, 29, 30, 31, 32, 33, 34, 35, 36, 37, 38, 39, 40, 41, 42, 200] [x] [8999, 10999, 31999] ty h ty169 h194 := gSg.tr (gSg.ss G174 sS193 (by decide)) g195 (by decide) (by decide) (fun x hx => Or.inr hx)
    have sS197 : gSs rT 1027 ty169 [8999, 10999, 31999] h194 h194 := gSs.rf g195.1
    have rf198 := Nat.lt_of_lt_of_eq rw175.2.1 nh194.symm
    have rf199 := zh194.trans rf177
    have dd200 : ∀ k, ¬ k ∈ ([13, 12, 11, 10, 9, 4, 2] : List Nat) → h194.2.2.2.2 x k = defaultValue (gGG.2.1 12 k) := raw_dp fh194 dd178
    have s201 := (fh194 2 (by decide)).trans s186
    have s202 := (fh194 4 (by decide)).trans s187
    have s203 := (fh194 9 (by decide)).trans s188
    have s204 := (fh194 10 (by decide)).trans s189
    have s205 := (fh194 11 (by decide)).trans s190
    have s206 := (fh194 12 (by decide)).trans s191
    clear G174 dd178 rf176 rf177 rw175 s186 s187 s188 s189 s190 s191 sS193
    refine gz_s 2 (pc' := 70) (L' := [some (.ref x), none, none, none, none]) (S' := [.int (zi 256), .ref x]) rfl ?_
    refine gs_newr 9 rfl (by decide) rfl sS197.1 (Nat.le_of_lt (Nat.lt_of_le_of_lt (gJ.cell sS197.1 t180 rfl).1 (gJ.cell sS197.1 t180 rfl).2.1)) (by omega) (by omega) rfl rfl (by show (256 : Int) ≤ _; omega) (by show _ ≤ (256 : Int); omega) (fun _ _ => gos_i (by decide) (by decide)) (fun ty207 h208 c209 g210 tc209 lc209 nc209 mc209 ec209 dc209 uc209 => ?_)
    have gac209 : h.1 ≤ c209 := by have h8 := G196.2.1; have h9 := sS197.2.1; omega
    have uq211 := uc209 uq173 (Or.inr (gNo.sub (by decide +kernel) pr192))
    have G212 : gSg [1, 2, 3, 4, 5, 6, 7, 8, 9, 10, 11, 12, 13, 14, 15, 16, 17, 18, 19, 20, 21, 22, 23, 24, 25, 26, 27, 28, 29, 30, 31, 32, 33, 34, 35, 36, 37, 38, 39, 40, 41, 42, 200] [x] [8999, 10999, 31999] ty h ty207 h208 := gSg.tr (gSg.ss G196 sS197 (by decide)) g210 (by decide) (by decide) (fun x hx => by cases hx)
    have rw213 := gSg.raw g210 rf198 (fun w => by cases w)
    have rf214 := (rw213.2.2.1.trans kh194)
    have rf215 := (rw213.2.2.2.trans rf199)
    have dd216 := gSg.rawd (ci := 12) (ps := [13, 12, 11, 10, 9, 4, 2]) g210 rf198 (fun w => by cases w) t179 (by decide) dd200
    have t217 : ty207 x = 200 := rw213.1.trans t179
    have t218 : ty207 c3 = 2 := gSg.typ g210 sS197.1 t180 rTk_2
    have t219 : ty207 c23 = 3 := gSg.typ g210 sS197.1 t181 rTk_3
    have t220 : ty207 c46 = 4 := gSg.typ g210 sS197.1 t182 rTk_4
    have t221 : ty207 c72 = 5 := gSg.typ g210 sS197.1 t183 rTk_5
    have t222 : ty207 c101 = 6 := gSg.typ g210 sS197.1 t184 rTk_6
    have t223 : ty207 c133 = 7 := gSg.typ g210 sS197.1 t185 rTk_7
    have t224 : ty207 c171 = 8 := gSg.typ g210 sS197.1 tc171 rTk_8
    have s225 := gSg.rawat g210 rf198 (fun w => by cases w) t179 (by decide) s201
    have s226 := gSg.rawat g210 rf198 (fun w => by cases w) t179 (by decide) s202
    have s227 := gSg.rawat g210 rf198 (fun w => by cases w) t179 (by decide) s203
    have s228 := gSg.rawat g210 rf198 (fun w => by cases w) t179 (by decide) s204
    have s229 := gSg.rawat g210 rf198 (fun w => by cases w) t179 (by decide) s205
    have s230 := gSg.rawat g210 rf198 (fun w => by cases w) t179 (by decide) s206
    have s231 := gSg.rawat g210 rf198 (fun w => by cases w) t179 (by decide) eh194
    have pr232 : gNo [1, 10, 11, 12, 13, 14, 15, 16, 17, 18, 19, 20, 21, 22, 23, 24, 25, 26, 27, 28, 29, 30, 31, 32, 33, 34, 35, 36, 37, 38, 39, 40, 41, 42] ty207 := gNo.gr g210 (by decide +kernel) (gNo.sub (by decide +kernel) pr192)
    have sS233 : gSs rT 1027 ty207 [8999, 10999, 31999] h208 h208 := gSs.rf g210.1
    clear G196 dd200 pr192 rf198 rf199 s201 s202 s203 s204 s205 s206 sS197 t179 t180 t181 t182 t183 t184 t185 uq173
    refine gs_rput rfl (by decide) rfl sS233.1 t217 nx rw213.2.1 rf214 rfl (Or.inr rfl) (fun h234 g235 nh234 mh234 kh234 zh234 eh234 fh234 => ?_)
    have G236 : gSg [1, 2, 3, 4, 5, 6, 7, 8, 9, 10, 11, 12, 13, 14, 15, 16, 17, 18, 19, 20, 21, 22, 23, 24, 25, 26, 27, 28, 29, 30, 31, 32, 33, 34, 35, 36, 37, 38, 39, 40, 41, 42, 200] [x] [8999, 10999, 31999] ty h ty207 h234 := gSg.tr (gSg.ss G212 sS233 (by decide)) g235 (by decide) (by decide) (fun x hx => Or.inr hx)
    have sS237 : gSs rT 1027 ty207 [8999, 10999, 31999] h234 h234 := gSs.rf g235.1
    have rf238 := Nat.lt_of_lt_of_eq rw213.2.1 nh234.symm
    have rf239 := zh234.trans rf215
    have dd240 : ∀ k, ¬ k ∈ ([14, 13, 12, 11, 10, 9, 4, 2] : List Nat) → h234.2.2.2.2 x k = defaultValue (gGG.2.1 12 k) := raw_dp fh234 dd216
    have s241 := (fh234 2 (by decide)).trans s225
    have s242 := (fh234 4 (by decide)).trans s226
    have s243 := (fh234 9 (by decide)).trans s227
    have s244 := (fh234 10 (by decide)).trans s228
    have s245 := (fh234 11 (by decide)).trans s229
    have s246 := (fh234 12 (by decide)).trans s230
    have s247 := (fh234 13 (by decide)).trans s231
    clear G212 dd216 rf214 rf215 rw213 s225 s226 s227 s228 s229 s230 s231 sS233
    refine gz_s 2 (pc' := 78) (L' := [some (.ref x), none, none, none, none]) (S' := [.int (zi 64), .ref x]) rfl ?_
    refine gs_newr 10 rfl (by decide) rfl sS237.1 (Nat.le_of_lt (Nat.lt_of_le_of_lt (gJ.cell sS237.1 t218 rfl).1 (gJ.cell sS237.1 t218 rfl).2.1)) (by omega) (by omega) rfl rfl (by show (64 : Int) ≤ _; omega) (by show _ ≤ (64 : Int); omega) (fun _ _ => gos_i (by decide) (by decide)) (fun ty248 h249 c250 g251 tc250 lc250 nc250 mc250 ec250 dc250 uc250 => ?_)
    have gac250 : h.1 ≤ c250 := by have h8 := G236.2.1; have h9 := sS237.2.1; omega
    have uq252 := uc250 uq211 (Or.inr (gNo.sub (by decide +kernel) pr232))
    have G253 : gSg [1, 2, 3, 4, 5, 6, 7, 8, 9, 10, 11, 12, 13, 14, 15, 16, 17, 18, 19, 20, 21, 22, 23, 24, 25, 26, 27, 28, 29, 30, 31, 32, 33, 34, 35, 36, 37, 38, 39, 40, 41, 42, 200] [x] [8999, 10999, 31999] ty h ty248 h249 := gSg.tr (gSg.ss G236 sS237 (by decide)) g251 (by decide) (by decide) (fun x hx => by cases hx)
    have rw254 := gSg.raw g251 rf238 (fun w => by cases w)
    have rf255 := (rw254.2.2.1.trans kh234)
    have rf256 := (rw254.2.2.2.trans rf239)
    have dd257 := gSg.rawd (ci := 12) (ps := [14, 13, 12, 11, 10, 9, 4, 2]) g251 rf238 (fun w => by cases w) t217 (by decide) dd240
    have t258 : ty248 x = 200 := rw254.1.trans t217
    have t259 : ty248 c3 = 2 := gSg.typ g251 sS237.1 t218 rTk_2
    have t260 : ty248 c23 = 3 := gSg.typ g251 sS237.1 t219 rTk_3
    have t261 : ty248 c46 = 4 := gSg.typ g251 sS237.1 t220 rTk_4
    have t262 : ty248 c72 = 5 := gSg.typ g251 sS237.1 t221 rTk_5
    have t263 : ty248 c101 = 6 := gSg.typ g251 sS237.1 t222 rTk_6
    have t264 : ty248 c133 = 7 := gSg.typ g251 sS237.1 t223 rTk_7
    have t265 : ty248 c171 = 8 := gSg.typ g251 sS237.1 t224 rTk_8
    have t266 : ty248 c209 = 9 := gSg.typ g251 sS237.1 tc209 rTk_9
    have s267 := gSg.rawat g251 rf238 (fun w => by cases w) t217 (by decide) s241
    have s268 := gSg.rawat g251 rf238 (fun w => by cases w) t217 (by decide) s242
    have s269 := gSg.rawat g251 rf238 (fun w => by cases w) t217 (by decide) s243
    have s270 := gSg.rawat g251 rf238 (fun w => by cases w) t217 (by decide) s244
    have s271 := gSg.rawat g251 rf238 (fun w => by cases w) t217 (by decide) s245
    have s272 := gSg.rawat g251 rf238 (fun w => by cases w) t217 (by decide) s246
    have s273 := gSg.rawat g251 rf238 (fun w => by cases w) t217 (by decide) s247
    have s274 := gSg.rawat g251 rf238 (fun w => by cases w) t217 (by decide) eh234
    have pr275 : gNo [1, 11, 12, 13, 14, 15, 16, 17, 18, 19, 20, 21, 22, 23, 24, 25, 26, 27, 28, 29, 30, 31, 32, 33, 34, 35, 36, 37, 38, 39, 40, 41, 42] ty248 := gNo.gr g251 (by decide +kernel) (gNo.sub (by decide +kernel) pr232)
    have sS276 : gSs rT 1027 ty248 [8999, 10999, 31999] h249 h249 := gSs.rf g251.1
    clear G236 dd240 pr232 rf238 rf239 s241 s242 s243 s244 s245 s246 s247 sS237 t217 t218 t219 t220 t221 t222 t223 t224 uq211
    refine gs_rput rfl (by decide) rfl sS276.1 t258 nx rw254.2.1 rf255 rfl (Or.inr rfl) (fun h277 g278 nh277 mh277 kh277 zh277 eh277 fh277 => ?_)
    have G279 : gSg [1, 2, 3, 4, 5, 6, 7, 8, 9, 10, 11, 12, 13, 14, 15, 16, 17, 18, 19, 20, 21, 22, 23, 24, 25, 26, 27, 28, 29, 30, 31, 32, 33, 34, 35, 36, 37, 38, 39, 40, 41, 42, 200] [x] [8999, 10999, 31999] ty h ty248 h277 := gSg.tr (gSg.ss G253 sS276 (by decide)) g278 (by decide) (by decide) (fun x hx => Or.inr hx)
    have sS280 : gSs rT 1027 ty248 [8999, 10999, 31999] h277 h277 := gSs.rf g278.1
    have rf281 := Nat.lt_of_lt_of_eq rw254.2.1 nh277.symm
    have rf282 := zh277.trans rf256
    have dd283 : ∀ k, ¬ k ∈ ([15, 14, 13, 12, 11, 10, 9, 4, 2] : List Nat) → h277.2.2.2.2 x k = defaultValue (gGG.2.1 12 k) := raw_dp fh277 dd257
    have s284 := (fh277 2 (by decide)).trans s267
    have s285 := (fh277 4 (by decide)).trans s268
    have s286 := (fh277 9 (by decide)).trans s269
    have s287 := (fh277 10 (by decide)).trans s270
    have s288 := (fh277 11 (by decide)).trans s271
    have s289 := (fh277 12 (by decide)).trans s272
    have s290 := (fh277 13 (by decide)).trans s273
    have s291 := (fh277 14 (by decide)).trans s274
    clear G253 dd257 rf255 rf256 rw254 s267 s268 s269 s270 s271 s272 s273 s274 sS276
    refine gz_s 2 (pc' := 85) (L' := [some (.ref x), none, none, none, none]) (S' := [.int (zi 3), .ref x]) rfl ?_
    refine gs_newr 11 rfl (by decide) rfl sS280.1 (Nat.le_of_lt (Nat.lt_of_le_of_lt (gJ.cell sS280.1 t259 rfl).1 (gJ.cell sS280.1 t259 rfl).2.1)) (by omega) (by omega) rfl rfl (by show (3 : Int) ≤ _; omega) (by show _ ≤ (3 : Int); omega) (fun _ _ => gos_i (by decide) (by decide)) (fun ty292 h293 c294 g295 tc294 lc294 nc294 mc294 ec294 dc294 uc294 => ?_)
    have gac294 : h.1 ≤ c294 := by have h8 := G279.2.1; have h9 := sS280.2.1; omega
    have uq296 := uc294 uq252 (Or.inr (gNo.sub (by decide +kernel) pr275))
    have G297 : gSg [1, 2, 3, 4, 5, 6, 7, 8, 9, 10, 11, 12, 13, 14, 15, 16, 17, 18, 19, 20, 21, 22, 23, 24, 25, 26, 27, 28, 29, 30, 31, 32, 33, 34, 35, 36, 37, 38, 39, 40, 41, 42, 200] [x] [8999, 10999, 31999] ty h ty292 h293 := gSg.tr (gSg.ss G279 sS280 (by decide)) g295 (by decide) (by decide) (fun x hx => by cases hx)
    have rw298 := gSg.raw g295 rf281 (fun w => by cases w)
    have rf299 := (rw298.2.2.1.trans kh277)
    have rf300 := (rw298.2.2.2.trans rf282)
    have dd301 := gSg.rawd (ci := 12) (ps := [15, 14, 13, 12, 11, 10, 9, 4, 2]) g295 rf281 (fun w => by cases w) t258 (by decide) dd283
    have t302 : ty292 x = 200 := rw298.1.trans t258
    have t303 : ty292 c3 = 2 := gSg.typ g295 sS280.1 t259 rTk_2
    have t304 : ty292 c23 = 3 := gSg.typ g295 sS280.1 t260 rTk_3
    have t305 : ty292 c46 = 4 := gSg.typ g295 sS280.1 t261 rTk_4
    have t306 : ty292 c72 = 5 := gSg.typ g295 sS280.1 t262 rTk_5
    have t307 : ty292 c101 = 6 := gSg.typ g295 sS280.1 t263 rTk_6
    have t308 : ty292 c133 = 7 := gSg.typ g295 sS280.1 t264 rTk_7
    have t309 : ty292 c171 = 8 := gSg.typ g295 sS280.1 t265 rTk_8
    have t310 : ty292 c209 = 9 := gSg.typ g295 sS280.1 t266 rTk_9
    have t311 : ty292 c250 = 10 := gSg.typ g295 sS280.1 tc250 rTk_10
    have s312 := gSg.rawat g295 rf281 (fun w => by cases w) t258 (by decide) s284
    have s313 := gSg.rawat g295 rf281 (fun w => by cases w) t258 (by decide) s285
    have s314 := gSg.rawat g295 rf281 (fun w => by cases w) t258 (by decide) s286
    have s315 := gSg.rawat g295 rf281 (fun w => by cases w) t258 (by decide) s287
    have s316 := gSg.rawat g295 rf281 (fun w => by cases w) t258 (by decide) s288
    have s317 := gSg.rawat g295 rf281 (fun w => by cases w) t258 (by decide) s289
    have s318 := gSg.rawat g295 rf281 (fun w => by cases w) t258 (by decide) s290
    have s319 := gSg.rawat g295 rf281 (fun w => by cases w) t258 (by decide) s291
    have s320 := gSg.rawat g295 rf281 (fun w => by cases w) t258 (by decide) eh277
    have pr321 : gNo [1, 12, 13, 14, 15, 16, 17, 18, 19, 20, 21, 22, 23, 24, 25, 26, 27, 28, 29, 30, 31, 32, 33, 34, 35, 36, 37, 38, 39, 40, 41, 42] ty292 := gNo.gr g295 (by decide +kernel) (gNo.sub (by decide +kernel) pr275)
    have sS322 : gSs rT 1027 ty292 [8999, 10999, 31999] h293 h293 := gSs.rf g295.1
    clear G279 dd283 pr275 rf281 rf282 s284 s285 s286 s287 s288 s289 s290 s291 sS280 t258 t259 t260 t261 t262 t263 t264 t265 t266 uq252
    refine gs_rput rfl (by decide) rfl sS322.1 t302 nx rw298.2.1 rf299 rfl (Or.inr rfl) (fun h323 g324 nh323 mh323 kh323 zh323 eh323 fh323 => ?_)
    have G325 : gSg [1, 2, 3, 4, 5, 6, 7, 8, 9, 10, 11, 12, 13, 14, 15, 16, 17, 18, 19, 20, 21, 22, 23, 24, 25, 26, 27, 28, 29, 30, 31, 32, 33, 34, 35, 36, 37, 38, 39, 40, 41, 42, 200] [x] [8999, 10999, 31999] ty h ty292 h323 := gSg.tr (gSg.ss G297 sS322 (by decide)) g324 (by decide) (by decide) (fun x hx => Or.inr hx)
    have sS326 : gSs rT 1027 ty292 [8999, 10999, 31999] h323 h323 := gSs.rf g324.1
    have rf327 := Nat.lt_of_lt_of_eq rw298.2.1 nh323.symm
    have rf328 := zh323.trans rf300
    have dd329 : ∀ k, ¬ k ∈ ([25, 15, 14, 13, 12, 11, 10, 9, 4, 2] : List Nat) → h323.2.2.2.2 x k = defaultValue (gGG.2.1 12 k) := raw_dp fh323 dd301
    have s330 := (fh323 2 (by decide)).trans s312
    have s331 := (fh323 4 (by decide)).trans s313
    have s332 := (fh323 9 (by decide)).trans s314
    have s333 := (fh323 10 (by decide)).trans s315
    have s334 := (fh323 11 (by decide)).trans s316
    have s335 := (fh323 12 (by decide)).trans s317
    have s336 := (fh323 13 (by decide)).trans s318
    have s337 := (fh323 14 (by decide)).trans s319
    have s338 := (fh323 15 (by decide)).trans s320
    clear G297 dd301 rf299 rf300 rw298 s312 s313 s314 s315 s316 s317 s318 s319 s320 sS322
    refine gz_s 2 (pc' := 92) (L' := [some (.ref x), none, none, none, none]) (S' := [.int (zi 3), .ref x]) rfl ?_
    refine gs_newr 12 rfl (by decide) rfl sS326.1 (Nat.le_of_lt (Nat.lt_of_le_of_lt (gJ.cell sS326.1 t303 rfl).1 (gJ.cell sS326.1 t303 rfl).2.1)) (by omega) (by omega) rfl rfl (by show (3 : Int) ≤ _; omega) (by show _ ≤ (3 : Int); omega) (fun _ _ => gos_i (by decide) (by decide)) (fun ty339 h340 c341 g342 tc341 lc341 nc341 mc341 ec341 dc341 uc341 => ?_)
    have gac341 : h.1 ≤ c341 := by have h8 := G325.2.1; have h9 := sS326.2.1; omega
    have uq343 := uc341 uq296 (Or.inr (gNo.sub (by decide +kernel) pr321))
    have G344 : gSg [1, 2, 3, 4, 5, 6, 7, 8, 9, 10, 11, 12, 13, 14, 15, 16, 17, 18, 19, 20, 21, 22, 23, 24, 25, 26, 27, 28, 29, 30, 31, 32, 33, 34, 35, 36, 37, 38, 39, 40, 41, 42, 200] [x] [8999, 10999, 31999] ty h ty339 h340 := gSg.tr (gSg.ss G325 sS326 (by decide)) g342 (by decide) (by decide) (fun x hx => by cases hx)
    have rw345 := gSg.raw g342 rf327 (fun w => by cases w)
    have rf346 := (rw345.2.2.1.trans kh323)
    have rf347 := (rw345.2.2.2.trans rf328)
    have dd348 := gSg.rawd (ci := 12) (ps := [25, 15, 14, 13, 12, 11, 10, 9, 4, 2]) g342 rf327 (fun w => by cases w) t302 (by decide) dd329
    have t349 : ty339 x = 200 := rw345.1.trans t302
    have t350 : ty339 c3 = 2 := gSg.typ g342 sS326.1 t303 rTk_2
    have t351 : ty339 c23 = 3 := gSg.typ g342 sS326.1 t304 rTk_3
    have t352 : ty339 c46 = 4 := gSg.typ g342 sS326.1 t305 rTk_4
    have t353 : ty339 c72 = 5 := gSg.typ g342 sS326.1 t306 rTk_5
    have t354 : ty339 c101 = 6 := gSg.typ g342 sS326.1 t307 rTk_6
    have t355 : ty339 c133 = 7 := gSg.typ g342 sS326.1 t308 rTk_7
    have t356 : ty339 c171 = 8 := gSg.typ g342 sS326.1 t309 rTk_8
    have t357 : ty339 c209 = 9 := gSg.typ g342 sS326.1 t310 rTk_9
    have t358 : ty339 c250 = 10 := gSg.typ g342 sS326.1 t311 rTk_10
    have t359 : ty339 c294 = 11 := gSg.typ g342 sS326.1 tc294 rTk_11
    have s360 := gSg.rawat g342 rf327 (fun w => by cases w) t302 (by decide) s330
    have s361 := gSg.rawat g342 rf327 (fun w => by cases w) t302 (by decide) s331
    have s362 := gSg.rawat g342 rf327 (fun w => by cases w) t302 (by decide) s332
    have s363 := gSg.rawat g342 rf327 (fun w => by cases w) t302 (by decide) s333
    have s364 := gSg.rawat g342 rf327 (fun w => by cases w) t302 (by decide) s334
    have s365 := gSg.rawat g342 rf327 (fun w => by cases w) t302 (by decide) s335
    have s366 := gSg.rawat g342 rf327 (fun w => by cases w) t302 (by decide) s336
    have s367 := gSg.rawat g342 rf327 (fun w => by cases w) t302 (by decide) s337
    have s368 := gSg.rawat g342 rf327 (fun w => by cases w) t302 (by decide) s338
    have s369 := gSg.rawat g342 rf327 (fun w => by cases w) t302 (by decide) eh323
    have pr370 : gNo [1, 13, 14, 15, 16, 17, 18, 19, 20, 21, 22, 23, 24, 25, 26, 27, 28, 29, 30, 31, 32, 33, 34, 35, 36, 37, 38, 39, 40, 41, 42] ty339 := gNo.gr g342 (by decide +kernel) (gNo.sub (by decide +kernel) pr321)
    have sS371 : gSs rT 1027 ty339 [8999, 10999, 31999] h340 h340 := gSs.rf g342.1
    clear G325 dd329 pr321 rf327 rf328 s330 s331 s332 s333 s334 s335 s336 s337 s338 sS326 t302 t303 t304 t305 t306 t307 t308 t309 t310 t311 uq296
    refine gs_rput rfl (by decide) rfl sS371.1 t349 nx rw345.2.1 rf346 rfl (Or.inr rfl) (fun h372 g373 nh372 mh372 kh372 zh372 eh372 fh372 => ?_)
    have G374 : gSg [1, 2, 3, 4, 5, 6, 7, 8, 9, 10, 11, 12, 13, 14, 15, 16, 17, 18, 19, 20, 21, 22, 23, 24, 25, 26, 27, 28, 29, 30, 31, 32, 33, 34, 35, 36, 37, 38, 39, 40, 41, 42, 200] [x] [8999, 10999, 31999] ty h ty339 h372 := gSg.tr (gSg.ss G344 sS371 (by decide)) g373 (by decide) (by decide) (fun x hx => Or.inr hx)
    have sS375 : gSs rT 1027 ty339 [8999, 10999, 31999] h372 h372 := gSs.rf g373.1
    have rf376 := Nat.lt_of_lt_of_eq rw345.2.1 nh372.symm
    have rf377 := zh372.trans rf347
    have dd378 : ∀ k, ¬ k ∈ ([26, 25, 15, 14, 13, 12, 11, 10, 9, 4, 2] : List Nat) → h372.2.2.2.2 x k = defaultValue (gGG.2.1 12 k) := raw_dp fh372 dd348
    have s379 := (fh372 2 (by decide)).trans s360
    have s380 := (fh372 4 (by decide)).trans s361
    have s381 := (fh372 9 (by decide)).trans s362
    have s382 := (fh372 10 (by decide)).trans s363
    have s383 := (fh372 11 (by decide)).trans s364
    have s384 := (fh372 12 (by decide)).trans s365
    have s385 := (fh372 13 (by decide)).trans s366
    have s386 := (fh372 14 (by decide)).trans s367
    have s387 := (fh372 15 (by decide)).trans s368
    have s388 := (fh372 25 (by decide)).trans s369
    clear G344 dd348 rf346 rf347 rw345 s360 s361 s362 s363 s364 s365 s366 s367 s368 s369 sS371
    refine gz_s 2 (pc' := 99) (L' := [some (.ref x), none, none, none, none]) (S' := [.int (zi 3), .ref x]) rfl ?_
    refine gs_newr 13 rfl (by decide) rfl sS375.1 (Nat.le_of_lt (Nat.lt_of_le_of_lt (gJ.cell sS375.1 t350 rfl).1 (gJ.cell sS375.1 t350 rfl).2.1)) (by omega) (by omega) rfl rfl (by show (3 : Int) ≤ _; omega) (by show _ ≤ (3 : Int); omega) (fun _ _ => gos_i (by decide) (by decide)) (fun ty389 h390 c391 g392 tc391 lc391 nc391 mc391 ec391 dc391 uc391 => ?_)
    have gac391 : h.1 ≤ c391 := by have h8 := G374.2.1; have h9 := sS375.2.1; omega
    have uq393 := uc391 uq343 (Or.inr (gNo.sub (by decide +kernel) pr370))
    have G394 : gSg [1, 2, 3, 4, 5, 6, 7, 8, 9, 10, 11, 12, 13, 14, 15, 16, 17, 18, 19, 20, 21, 22, 23, 24, 25, 26, 27, 28, 29, 30, 31, 32, 33, 34, 35, 36, 37, 38, 39, 40, 41, 42, 200] [x] [8999, 10999, 31999] ty h ty389 h390 := gSg.tr (gSg.ss G374 sS375 (by decide)) g392 (by decide) (by decide) (fun x hx => by cases hx)
    have rw395 := gSg.raw g392 rf376 (fun w => by cases w)
    have rf396 := (rw395.2.2.1.trans kh372)
    have rf397 := (rw395.2.2.2.trans rf377)
    have dd398 := gSg.rawd (ci := 12) (ps := [26, 25, 15, 14, 13, 12, 11, 10, 9, 4, 2]) g392 rf376 (fun w => by cases w) t349 (by decide) dd378
    have t399 : ty389 x = 200 := rw395.1.trans t349
    have t400 : ty389 c3 = 2 := gSg.typ g392 sS375.1 t350 rTk_2
    have t401 : ty389 c23 = 3 := gSg.typ g392 sS375.1 t351 rTk_3
    have t402 : ty389 c46 = 4 := gSg.typ g392 sS375.1 t352 rTk_4
    have t403 : ty389 c72 = 5 := gSg.typ g392 sS375.1 t353 rTk_5
    have t404 : ty389 c101 = 6 := gSg.typ g392 sS375.1 t354 rTk_6
    have t405 : ty389 c133 = 7 := gSg.typ g392 sS375.1 t355 rTk_7
    have t406 : ty389 c171 = 8 := gSg.typ g392 sS375.1 t356 rTk_8
    have t407 : ty389 c209 = 9 := gSg.typ g392 sS375.1 t357 rTk_9
    have t408 : ty389 c250 = 10 := gSg.typ g392 sS375.1 t358 rTk_10
    have t409 : ty389 c294 = 11 := gSg.typ g392 sS375.1 t359 rTk_11
    have t410 : ty389 c341 = 12 := gSg.typ g392 sS375.1 tc341 rTk_12
    have s411 := gSg.rawat g392 rf376 (fun w => by cases w) t349 (by decide) s379
    have s412 := gSg.rawat g392 rf376 (fun w => by cases w) t349 (by decide) s380
    have s413 := gSg.rawat g392 rf376 (fun w => by cases w) t349 (by decide) s381
    have s414 := gSg.rawat g392 rf376 (fun w => by cases w) t349 (by decide) s382
    have s415 := gSg.rawat g392 rf376 (fun w => by cases w) t349 (by decide) s383
    have s416 := gSg.rawat g392 rf376 (fun w => by cases w) t349 (by decide) s384
    have s417 := gSg.rawat g392 rf376 (fun w => by cases w) t349 (by decide) s385
    have s418 := gSg.rawat g392 rf376 (fun w => by cases w) t349 (by decide) s386
    have s419 := gSg.rawat g392 rf376 (fun w => by cases w) t349 (by decide) s387
    have s420 := gSg.rawat g392 rf376 (fun w => by cases w) t349 (by decide) s388
    have s421 := gSg.rawat g392 rf376 (fun w => by cases w) t349 (by decide) eh372
    have pr422 : gNo [1, 14, 15, 16, 17, 18, 19, 20, 21, 22, 23, 24, 25, 26, 27, 28, 29, 30, 31, 32, 33, 34, 35, 36, 37, 38, 39, 40, 41, 42] ty389 := gNo.gr g392 (by decide +kernel) (gNo.sub (by decide +kernel) pr370)
    have sS423 : gSs rT 1027 ty389 [8999, 10999, 31999] h390 h390 := gSs.rf g392.1
    clear G374 dd378 pr370 rf376 rf377 s379 s380 s381 s382 s383 s384 s385 s386 s387 s388 sS375 t349 t350 t351 t352 t353 t354 t355 t356 t357 t358 t359 uq343
    refine gs_rput rfl (by decide) rfl sS423.1 t399 nx rw395.2.1 rf396 rfl (Or.inr rfl) (fun h424 g425 nh424 mh424 kh424 zh424 eh424 fh424 => ?_)
    have G426 : gSg [1, 2, 3, 4, 5, 6, 7, 8, 9, 10, 11, 12, 13, 14, 15, 16, 17, 18, 19, 20, 21, 22, 23, 24, 25, 26, 27, 28, 29, 30, 31, 32, 33, 34, 35, 36, 37, 38, 39, 40, 41, 42, 200] [x] [8999, 10999, 31999] ty h ty389 h424 := gSg.tr (gSg.ss G394 sS423 (by decide)) g425 (by decide) (by decide) (fun x hx => Or.inr hx)
    have sS427 : gSs rT 1027 ty389 [8999, 10999, 31999] h424 h424 := gSs.rf g425.1
    have rf428 := Nat.lt_of_lt_of_eq rw395.2.1 nh424.symm
    have rf429 := zh424.trans rf397
    have dd430 : ∀ k, ¬ k ∈ ([27, 26, 25, 15, 14, 13, 12, 11, 10, 9, 4, 2] : List Nat) → h424.2.2.2.2 x k = defaultValue (gGG.2.1 12 k) := raw_dp fh424 dd398
    have s431 := (fh424 2 (by decide)).trans s411
    have s432 := (fh424 4 (by decide)).trans s412
    have s433 := (fh424 9 (by decide)).trans s413
    have s434 := (fh424 10 (by decide)).trans s414
    have s435 := (fh424 11 (by decide)).trans s415
    have s436 := (fh424 12 (by decide)).trans s416
    have s437 := (fh424 13 (by decide)).trans s417
    have s438 := (fh424 14 (by decide)).trans s418
    have s439 := (fh424 15 (by decide)).trans s419
    have s440 := (fh424 25 (by decide)).trans s420
    have s441 := (fh424 26 (by decide)).trans s421
    clear G394 dd398 rf396 rf397 rw395 s411 s412 s413 s414 s415 s416 s417 s418 s419 s420 s421 sS423
    have lp442 := cmlp442 d hJ x nx c3 c23 c46 c72 c101 c133 c171 c209 c250 c294 c341 c391
    have G3613 : gSg [1, 2, 3, 4, 5, 6, 7, 8, 9, 10, 11, 12, 13, 14, 15, 16, 17, 18, 19, 20, 21, 22, 23, 24, 25, 26, 27, 28, 29, 30, 31, 32, 33, 34, 35, 36, 37, 38, 39, 40, 41, 42, 200] [x] [8999, 10999, 31999] ty h ty389 h424 := gSg.ss G426 sS427 (by decide)
    exact gz_wk (lp442 _ ty389 h424  (Nat.lt_succ_self _) G3613 uq393 t399 t400 t401 t402 t403 t404 t405 t406 t407 t408 t409 t410 tc391 (by omega) (by omega) s431 s432 s433 s434 s435 s436 s437 s438 s439 s440 s441 eh424 pr422 rf428 kh424 rf429 dd430) (gLw.s (gLw.n (gLw.n (gLw.n (gLw.n gLw.z)))))
set_option maxRecDepth 20000 in
set_option maxHeartbeats 4000000 in
theorem ct_Model (d : Nat) {ty : Nat → Nat} {h : gH} (hJ : gJ rT 1027 ty h) (x : Nat) (tx : ty x = 200) (nx : 1027 ≤ x) (lx : x < h.1) (kx : h.2.2.1 x = some (.inr 12)) (zx : h.2.2.2.1 x = 0) (dx : ∀ k, h.2.2.2.2 x k = defaultValue (gGG.2.1 12 k)) (no0 : gNo [1, 2, 3, 4, 5, 6, 7, 8, 9, 10, 11, 12, 13, 14, 15, 16, 17, 18, 19, 20, 21, 22, 23, 24, 25, 26, 27, 28, 29, 30, 31, 32, 33, 34, 35, 36, 37, 38, 39, 40, 41, 42] ty) (uq : gUq ty) : gz gPP gGG gcn (d + 1) gt130 0 (gent [.ref x] 5) [] h (fun q _ => ∃ ty9 : Nat → Nat, gSg [1, 2, 3, 4, 5, 6, 7, 8, 9, 10, 11, 12, 13, 14, 15, 16, 17, 18, 19, 20, 21, 22, 23, 24, 25, 26, 27, 28, 29, 30, 31, 32, 33, 34, 35, 36, 37, 38, 39, 40, 41, 42, 200] [x] [8999, 10999, 31999] ty h ty9 q.2.2 ∧ ∃ ip n1 cw ch iv1 : Int, ty9 x = 1 ∧ gfin gt130 q.1 q.2.1 = some none ∧ q.2.2.2.2.2.2 x 16 = .int (zi ip) ∧ 0 ≤ ip ∧ ip ≤ 1 ∧ q.2.2.2.2.2.2 x 53 = .int (zi n1) ∧ 0 ≤ n1 ∧ n1 ≤ 10 ∧ q.2.2.2.2.2.2 x 50 = .int (zi cw) ∧ 0 ≤ cw ∧ cw ≤ 32 ∧ q.2.2.2.2.2.2 x 51 = .int (zi ch) ∧ 0 ≤ ch ∧ ch ≤ 32 ∧ q.2.2.2.2.2.2 x 52 = .int (zi iv1) ∧ 0 ≤ iv1 ∧ iv1 ≤ 100 ∧ (ip = 0) ∧ (n1 = 0) ∧ (cw = 0) ∧ (ch = 0) ∧ (iv1 = 0) ∧ ((q.2.2.1 : Int) = h.1 + 41) ∧ ((q.2.2.2.1 : Int) = h.2.1 + 88652) ∧ (gTs ty9 0 q.2.2) ∧ (gOyB ty9 26 0 1024 q.2.2) ∧ gUq ty9) := by
  have hS : gSs rT 1027 ty [8999, 10999, 31999] h h := gSs.rf hJ
  have G0 : gSg [1, 2, 3, 4, 5, 6, 7, 8, 9, 10, 11, 12, 13, 14, 15, 16, 17, 18, 19, 20, 21, 22, 23, 24, 25, 26, 27, 28, 29, 30, 31, 32, 33, 34, 35, 36, 37, 38, 39, 40, 41, 42, 200] [x] [8999, 10999, 31999] ty h ty h := gSg.rf hJ (fun x hx => by rw [List.mem_singleton.mp hx, tx]; rfl)
  refine gz_s 1 (pc' := 1) (L' := [some (.ref x), none, none, none, none]) (S' := [.ref x]) rfl ?_
  refine gz_obj rfl (by decide) (by omega) rfl (by decide) ?_
  refine gz_s 2 (pc' := 8) (L' := [some (.ref x), none, none, none, none]) (S' := [.int (zi 2000), .ref x]) rfl ?_
  refine gs_newr 2 rfl (by decide) rfl hS.1 (Nat.le_of_lt (Nat.lt_of_le_of_lt nx lx)) (by omega) (by omega) rfl rfl (by show (2000 : Int) ≤ _; omega) (by show _ ≤ (2000 : Int); omega) (fun _ _ => gos_i (by decide) (by decide)) (fun ty1 h2 c3 g4 tc3 lc3 nc3 mc3 ec3 dc3 uc3 => ?_)
  have gac3 : h.1 ≤ c3 := by have h8 := G0.2.1; have h9 := hS.2.1; omega
  have uq5 := uc3 uq (Or.inr (gNo.sub (by decide +kernel) no0))
  have G6 : gSg [1, 2, 3, 4, 5, 6, 7, 8, 9, 10, 11, 12, 13, 14, 15, 16, 17, 18, 19, 20, 21, 22, 23, 24, 25, 26, 27, 28, 29, 30, 31, 32, 33, 34, 35, 36, 37, 38, 39, 40, 41, 42, 200] [x] [8999, 10999, 31999] ty h ty1 h2 := gSg.tr (gSg.ss G0 hS (by decide)) g4 (by decide) (by decide) (fun x hx => by cases hx)
  have rw7 := gSg.raw g4 lx (fun w => by cases w)
  have rf8 := (rw7.2.2.1.trans kx)
  have rf9 := (rw7.2.2.2.trans zx)
  have dd10 := gSg.rawd (ci := 12) (ps := []) g4 lx (fun w => by cases w) tx (by decide) (fun k _ => dx k)
  have t11 : ty1 x = 200 := rw7.1.trans tx
  have pr12 : gNo [1, 3, 4, 5, 6, 7, 8, 9, 10, 11, 12, 13, 14, 15, 16, 17, 18, 19, 20, 21, 22, 23, 24, 25, 26, 27, 28, 29, 30, 31, 32, 33, 34, 35, 36, 37, 38, 39, 40, 41, 42] ty1 := gNo.gr g4 (by decide +kernel) (gNo.sub (by decide +kernel) no0)
  have sS13 : gSs rT 1027 ty1 [8999, 10999, 31999] h2 h2 := gSs.rf g4.1
  refine gs_rput rfl (by decide) rfl sS13.1 t11 nx rw7.2.1 rf8 rfl (Or.inr rfl) (fun h14 g15 nh14 mh14 kh14 zh14 eh14 fh14 => ?_)
  have G16 : gSg [1, 2, 3, 4, 5, 6, 7, 8, 9, 10, 11, 12, 13, 14, 15, 16, 17, 18, 19, 20, 21, 22, 23, 24, 25, 26, 27, 28, 29, 30, 31, 32, 33, 34, 35, 36, 37, 38, 39, 40, 41, 42, 200] [x] [8999, 10999, 31999] ty h ty1 h14 := gSg.tr (gSg.ss G6 sS13 (by decide)) g15 (by decide) (by decide) (fun x hx => Or.inr hx)
  have sS17 : gSs rT 1027 ty1 [8999, 10999, 31999] h14 h14 := gSs.rf g15.1
  have rf18 := Nat.lt_of_lt_of_eq rw7.2.1 nh14.symm
  have rf19 := zh14.trans rf9
  have dd20 : ∀ k, ¬ k ∈ ([2] : List Nat) → h14.2.2.2.2 x k = defaultValue (gGG.2.1 12 k) := raw_dp fh14 dd10
  clear G6 dd10 rf8 rf9 rw7 sS13
  refine gz_s 2 (pc' := 17) (L' := [some (.ref x), none, none, none, none]) (S' := [.int (zi 2000), .ref x]) rfl ?_
  refine gs_newr 3 rfl (by decide) rfl sS17.1 (Nat.le_of_lt (Nat.lt_of_le_of_lt (gJ.cell sS17.1 tc3 rTk_2).1 (gJ.cell sS17.1 tc3 rTk_2).2.1)) (by omega) (by omega) rfl rfl (by show (2000 : Int) ≤ _; omega) (by show _ ≤ (2000 : Int); omega) (fun _ _ => gos_i (by decide) (by decide)) (fun ty21 h22 c23 g24 tc23 lc23 nc23 mc23 ec23 dc23 uc23 => ?_)
  have gac23 : h.1 ≤ c23 := by have h8 := G16.2.1; have h9 := sS17.2.1; omega
  have uq25 := uc23 uq5 (Or.inr (gNo.sub (by decide +kernel) pr12))
  have G26 : gSg [1, 2, 3, 4, 5, 6, 7, 8, 9, 10, 11, 12, 13, 14, 15, 16, 17, 18, 19, 20, 21, 22, 23, 24, 25, 26, 27, 28, 29, 30, 31, 32, 33, 34, 35, 36, 37, 38, 39, 40, 41, 42, 200] [x] [8999, 10999, 31999] ty h ty21 h22 := gSg.tr (gSg.ss G16 sS17 (by decide)) g24 (by decide) (by decide) (fun x hx => by cases hx)
  have rw27 := gSg.raw g24 rf18 (fun w => by cases w)
  have rf28 := (rw27.2.2.1.trans kh14)
  have rf29 := (rw27.2.2.2.trans rf19)
  have dd30 := gSg.rawd (ci := 12) (ps := [2]) g24 rf18 (fun w => by cases w) t11 (by decide) dd20
  have t31 : ty21 x = 200 := rw27.1.trans t11
  have t32 : ty21 c3 = 2 := gSg.typ g24 sS17.1 tc3 rTk_2
  have s33 := gSg.rawat g24 rf18 (fun w => by cases w) t11 (by decide) eh14
  have pr34 : gNo [1, 4, 5, 6, 7, 8, 9, 10, 11, 12, 13, 14, 15, 16, 17, 18, 19, 20, 21, 22, 23, 24, 25, 26, 27, 28, 29, 30, 31, 32, 33, 34, 35, 36, 37, 38, 39, 40, 41, 42] ty21 := gNo.gr g24 (by decide +kernel) (gNo.sub (by decide +kernel) pr12)
  have sS35 : gSs rT 1027 ty21 [8999, 10999, 31999] h22 h22 := gSs.rf g24.1
  clear G16 dd20 pr12 rf18 rf19 sS17 t11 uq5
  refine gs_rput rfl (by decide) rfl sS35.1 t31 nx rw27.2.1 rf28 rfl (Or.inr rfl) (fun h36 g37 nh36 mh36 kh36 zh36 eh36 fh36 => ?_)
  have G38 : gSg [1, 2, 3, 4, 5, 6, 7, 8, 9, 10, 11, 12, 13, 14, 15, 16, 17, 18, 19, 20, 21, 22, 23, 24, 25, 26, 27, 28, 29, 30, 31, 32, 33, 34, 35, 36, 37, 38, 39, 40, 41, 42, 200] [x] [8999, 10999, 31999] ty h ty21 h36 := gSg.tr (gSg.ss G26 sS35 (by decide)) g37 (by decide) (by decide) (fun x hx => Or.inr hx)
  have sS39 : gSs rT 1027 ty21 [8999, 10999, 31999] h36 h36 := gSs.rf g37.1
  have rf40 := Nat.lt_of_lt_of_eq rw27.2.1 nh36.symm
  have rf41 := zh36.trans rf29
  have dd42 : ∀ k, ¬ k ∈ ([4, 2] : List Nat) → h36.2.2.2.2 x k = defaultValue (gGG.2.1 12 k) := raw_dp fh36 dd30
  have s43 := (fh36 2 (by decide)).trans s33
  clear G26 dd30 rf28 rf29 rw27 s33 sS35
  refine gz_s 2 (pc' := 25) (L' := [some (.ref x), none, none, none, none]) (S' := [.int (zi 8), .ref x]) rfl ?_
  refine gs_newr 4 rfl (by decide) rfl sS39.1 (Nat.le_of_lt (Nat.lt_of_le_of_lt (gJ.cell sS39.1 t32 rfl).1 (gJ.cell sS39.1 t32 rfl).2.1)) (by omega) (by omega) rfl rfl (by show (8 : Int) ≤ _; omega) (by show _ ≤ (8 : Int); omega) (fun _ _ => gos_i (by decide) (by decide)) (fun ty44 h45 c46 g47 tc46 lc46 nc46 mc46 ec46 dc46 uc46 => ?_)
  have gac46 : h.1 ≤ c46 := by have h8 := G38.2.1; have h9 := sS39.2.1; omega
  have uq48 := uc46 uq25 (Or.inr (gNo.sub (by decide +kernel) pr34))
  have G49 : gSg [1, 2, 3, 4, 5, 6, 7, 8, 9, 10, 11, 12, 13, 14, 15, 16, 17, 18, 19, 20, 21, 22, 23, 24, 25, 26, 27, 28, 29, 30, 31, 32, 33, 34, 35, 36, 37, 38, 39, 40, 41, 42, 200] [x] [8999, 10999, 31999] ty h ty44 h45 := gSg.tr (gSg.ss G38 sS39 (by decide)) g47 (by decide) (by decide) (fun x hx => by cases hx)
  have rw50 := gSg.raw g47 rf40 (fun w => by cases w)
  have rf51 := (rw50.2.2.1.trans kh36)
  have rf52 := (rw50.2.2.2.trans rf41)
  have dd53 := gSg.rawd (ci := 12) (ps := [4, 2]) g47 rf40 (fun w => by cases w) t31 (by decide) dd42
  have t54 : ty44 x = 200 := rw50.1.trans t31
  have t55 : ty44 c3 = 2 := gSg.typ g47 sS39.1 t32 rTk_2
  have t56 : ty44 c23 = 3 := gSg.typ g47 sS39.1 tc23 rTk_3
  have s57 := gSg.rawat g47 rf40 (fun w => by cases w) t31 (by decide) s43
  have s58 := gSg.rawat g47 rf40 (fun w => by cases w) t31 (by decide) eh36
  have pr59 : gNo [1, 5, 6, 7, 8, 9, 10, 11, 12, 13, 14, 15, 16, 17, 18, 19, 20, 21, 22, 23, 24, 25, 26, 27, 28, 29, 30, 31, 32, 33, 34, 35, 36, 37, 38, 39, 40, 41, 42] ty44 := gNo.gr g47 (by decide +kernel) (gNo.sub (by decide +kernel) pr34)
  have sS60 : gSs rT 1027 ty44 [8999, 10999, 31999] h45 h45 := gSs.rf g47.1
  clear G38 dd42 pr34 rf40 rf41 s43 sS39 t31 t32 uq25
  refine gs_rput rfl (by decide) rfl sS60.1 t54 nx rw50.2.1 rf51 rfl (Or.inr rfl) (fun h61 g62 nh61 mh61 kh61 zh61 eh61 fh61 => ?_)
  have G63 : gSg [1, 2, 3, 4, 5, 6, 7, 8, 9, 10, 11, 12, 13, 14, 15, 16, 17, 18, 19, 20, 21, 22, 23, 24, 25, 26, 27, 28, 29, 30, 31, 32, 33, 34, 35, 36, 37, 38, 39, 40, 41, 42, 200] [x] [8999, 10999, 31999] ty h ty44 h61 := gSg.tr (gSg.ss G49 sS60 (by decide)) g62 (by decide) (by decide) (fun x hx => Or.inr hx)
  have sS64 : gSs rT 1027 ty44 [8999, 10999, 31999] h61 h61 := gSs.rf g62.1
  have rf65 := Nat.lt_of_lt_of_eq rw50.2.1 nh61.symm
  have rf66 := zh61.trans rf52
  have dd67 : ∀ k, ¬ k ∈ ([9, 4, 2] : List Nat) → h61.2.2.2.2 x k = defaultValue (gGG.2.1 12 k) := raw_dp fh61 dd53
  have s68 := (fh61 2 (by decide)).trans s57
  have s69 := (fh61 4 (by decide)).trans s58
  clear G49 dd53 rf51 rf52 rw50 s57 s58 sS60
  refine gz_s 2 (pc' := 34) (L' := [some (.ref x), none, none, none, none]) (S' := [.int (zi 2056), .ref x]) rfl ?_
  refine gs_newr 5 rfl (by decide) rfl sS64.1 (Nat.le_of_lt (Nat.lt_of_le_of_lt (gJ.cell sS64.1 t55 rfl).1 (gJ.cell sS64.1 t55 rfl).2.1)) (by omega) (by omega) rfl rfl (by show (2056 : Int) ≤ _; omega) (by show _ ≤ (2056 : Int); omega) (fun _ _ => gos_i (by decide) (by decide)) (fun ty70 h71 c72 g73 tc72 lc72 nc72 mc72 ec72 dc72 uc72 => ?_)
  have gac72 : h.1 ≤ c72 := by have h8 := G63.2.1; have h9 := sS64.2.1; omega
  have uq74 := uc72 uq48 (Or.inr (gNo.sub (by decide +kernel) pr59))
  have G75 : gSg [1, 2, 3, 4, 5, 6, 7, 8, 9, 10, 11, 12, 13, 14, 15, 16, 17, 18, 19, 20, 21, 22, 23, 24, 25, 26, 27, 28, 29, 30, 31, 32, 33, 34, 35, 36, 37, 38, 39, 40, 41, 42, 200] [x] [8999, 10999, 31999] ty h ty70 h71 := gSg.tr (gSg.ss G63 sS64 (by decide)) g73 (by decide) (by decide) (fun x hx => by cases hx)
  have rw76 := gSg.raw g73 rf65 (fun w => by cases w)
  have rf77 := (rw76.2.2.1.trans kh61)
  have rf78 := (rw76.2.2.2.trans rf66)
  have dd79 := gSg.rawd (ci := 12) (ps := [9, 4, 2]) g73 rf65 (fun w => by cases w) t54 (by decide) dd67
  have t80 : ty70 x = 200 := rw76.1.trans t54
  have t81 : ty70 c3 = 2 := gSg.typ g73 sS64.1 t55 rTk_2
  have t82 : ty70 c23 = 3 := gSg.typ g73 sS64.1 t56 rTk_3
  have t83 : ty70 c46 = 4 := gSg.typ g73 sS64.1 tc46 rTk_4
  have s84 := gSg.rawat g73 rf65 (fun w => by cases w) t54 (by decide) s68
  have s85 := gSg.rawat g73 rf65 (fun w => by cases w) t54 (by decide) s69
  have s86 := gSg.rawat g73 rf65 (fun w => by cases w) t54 (by decide) eh61
  have pr87 : gNo [1, 6, 7, 8, 9, 10, 11, 12, 13, 14, 15, 16, 17, 18, 19, 20, 21, 22, 23, 24, 25, 26, 27, 28, 29, 30, 31, 32, 33, 34, 35, 36, 37, 38, 39, 40, 41, 42] ty70 := gNo.gr g73 (by decide +kernel) (gNo.sub (by decide +kernel) pr59)
  have sS88 : gSs rT 1027 ty70 [8999, 10999, 31999] h71 h71 := gSs.rf g73.1
  clear G63 dd67 pr59 rf65 rf66 s68 s69 sS64 t54 t55 t56 uq48
  refine gs_rput rfl (by decide) rfl sS88.1 t80 nx rw76.2.1 rf77 rfl (Or.inr rfl) (fun h89 g90 nh89 mh89 kh89 zh89 eh89 fh89 => ?_)
  have G91 : gSg [1, 2, 3, 4, 5, 6, 7, 8, 9, 10, 11, 12, 13, 14, 15, 16, 17, 18, 19, 20, 21, 22, 23, 24, 25, 26, 27, 28, 29, 30, 31, 32, 33, 34, 35, 36, 37, 38, 39, 40, 41, 42, 200] [x] [8999, 10999, 31999] ty h ty70 h89 := gSg.tr (gSg.ss G75 sS88 (by decide)) g90 (by decide) (by decide) (fun x hx => Or.inr hx)
  have sS92 : gSs rT 1027 ty70 [8999, 10999, 31999] h89 h89 := gSs.rf g90.1
  have rf93 := Nat.lt_of_lt_of_eq rw76.2.1 nh89.symm
  have rf94 := zh89.trans rf78
  have dd95 : ∀ k, ¬ k ∈ ([10, 9, 4, 2] : List Nat) → h89.2.2.2.2 x k = defaultValue (gGG.2.1 12 k) := raw_dp fh89 dd79
  have s96 := (fh89 2 (by decide)).trans s84
  have s97 := (fh89 4 (by decide)).trans s85
  have s98 := (fh89 9 (by decide)).trans s86
  clear G75 dd79 rf77 rf78 rw76 s84 s85 s86 sS88
  refine gz_s 2 (pc' := 43) (L' := [some (.ref x), none, none, none, none]) (S' := [.int (zi 2056), .ref x]) rfl ?_
  refine gs_newr 6 rfl (by decide) rfl sS92.1 (Nat.le_of_lt (Nat.lt_of_le_of_lt (gJ.cell sS92.1 t81 rfl).1 (gJ.cell sS92.1 t81 rfl).2.1)) (by omega) (by omega) rfl rfl (by show (2056 : Int) ≤ _; omega) (by show _ ≤ (2056 : Int); omega) (fun _ _ => gos_i (by decide) (by decide)) (fun ty99 h100 c101 g102 tc101 lc101 nc101 mc101 ec101 dc101 uc101 => ?_)
  have gac101 : h.1 ≤ c101 := by have h8 := G91.2.1; have h9 := sS92.2.1; omega
  have uq103 := uc101 uq74 (Or.inr (gNo.sub (by decide +kernel) pr87))
  have G104 : gSg [1, 2, 3, 4, 5, 6, 7, 8, 9, 10, 11, 12, 13, 14, 15, 16, 17, 18, 19, 20, 21, 22, 23, 24, 25, 26, 27, 28, 29, 30, 31, 32, 33, 34, 35, 36, 37, 38, 39, 40, 41, 42, 200] [x] [8999, 10999, 31999] ty h ty99 h100 := gSg.tr (gSg.ss G91 sS92 (by decide)) g102 (by decide) (by decide) (fun x hx => by cases hx)
  have rw105 := gSg.raw g102 rf93 (fun w => by cases w)
  have rf106 := (rw105.2.2.1.trans kh89)
  have rf107 := (rw105.2.2.2.trans rf94)
  have dd108 := gSg.rawd (ci := 12) (ps := [10, 9, 4, 2]) g102 rf93 (fun w => by cases w) t80 (by decide) dd95
  have t109 : ty99 x = 200 := rw105.1.trans t80
  have t110 : ty99 c3 = 2 := gSg.typ g102 sS92.1 t81 rTk_2
  have t111 : ty99 c23 = 3 := gSg.typ g102 sS92.1 t82 rTk_3
  have t112 : ty99 c46 = 4 := gSg.typ g102 sS92.1 t83 rTk_4
  have t113 : ty99 c72 = 5 := gSg.typ g102 sS92.1 tc72 rTk_5
  have s114 := gSg.rawat g102 rf93 (fun w => by cases w) t80 (by decide) s96
  have s115 := gSg.rawat g102 rf93 (fun w => by cases w) t80 (by decide) s97
  have s116 := gSg.rawat g102 rf93 (fun w => by cases w) t80 (by decide) s98
  have s117 := gSg.rawat g102 rf93 (fun w => by cases w) t80 (by decide) eh89
  have pr118 : gNo [1, 7, 8, 9, 10, 11, 12, 13, 14, 15, 16, 17, 18, 19, 20, 21, 22, 23, 24, 25, 26, 27, 28, 29, 30, 31, 32, 33, 34, 35, 36, 37, 38, 39, 40, 41, 42] ty99 := gNo.gr g102 (by decide +kernel) (gNo.sub (by decide +kernel) pr87)
  have sS119 : gSs rT 1027 ty99 [8999, 10999, 31999] h100 h100 := gSs.rf g102.1
  clear G91 dd95 pr87 rf93 rf94 s96 s97 s98 sS92 t80 t81 t82 t83 uq74
  refine gs_rput rfl (by decide) rfl sS119.1 t109 nx rw105.2.1 rf106 rfl (Or.inr rfl) (fun h120 g121 nh120 mh120 kh120 zh120 eh120 fh120 => ?_)
  have G122 : gSg [1, 2, 3, 4, 5, 6, 7, 8, 9, 10, 11, 12, 13, 14, 15, 16, 17, 18, 19, 20, 21, 22, 23, 24, 25, 26, 27, 28, 29, 30, 31, 32, 33, 34, 35, 36, 37, 38, 39, 40, 41, 42, 200] [x] [8999, 10999, 31999] ty h ty99 h120 := gSg.tr (gSg.ss G104 sS119 (by decide)) g121 (by decide) (by decide) (fun x hx => Or.inr hx)
  have sS123 : gSs rT 1027 ty99 [8999, 10999, 31999] h120 h120 := gSs.rf g121.1
  have rf124 := Nat.lt_of_lt_of_eq rw105.2.1 nh120.symm
  have rf125 := zh120.trans rf107
  have dd126 : ∀ k, ¬ k ∈ ([11, 10, 9, 4, 2] : List Nat) → h120.2.2.2.2 x k = defaultValue (gGG.2.1 12 k) := raw_dp fh120 dd108
  have s127 := (fh120 2 (by decide)).trans s114
  have s128 := (fh120 4 (by decide)).trans s115
  have s129 := (fh120 9 (by decide)).trans s116
  have s130 := (fh120 10 (by decide)).trans s117
  clear G104 dd108 rf106 rf107 rw105 s114 s115 s116 s117 sS119
  refine gz_s 2 (pc' := 52) (L' := [some (.ref x), none, none, none, none]) (S' := [.int (zi 2056), .ref x]) rfl ?_
  refine gs_newr 7 rfl (by decide) rfl sS123.1 (Nat.le_of_lt (Nat.lt_of_le_of_lt (gJ.cell sS123.1 t110 rfl).1 (gJ.cell sS123.1 t110 rfl).2.1)) (by omega) (by omega) rfl rfl (by show (2056 : Int) ≤ _; omega) (by show _ ≤ (2056 : Int); omega) (fun _ _ => gos_i (by decide) (by decide)) (fun ty131 h132 c133 g134 tc133 lc133 nc133 mc133 ec133 dc133 uc133 => ?_)
  have gac133 : h.1 ≤ c133 := by have h8 := G122.2.1; have h9 := sS123.2.1; omega
  have uq135 := uc133 uq103 (Or.inr (gNo.sub (by decide +kernel) pr118))
  have G136 : gSg [1, 2, 3, 4, 5, 6, 7, 8, 9, 10, 11, 12, 13, 14, 15, 16, 17, 18, 19, 20, 21, 22, 23, 24, 25, 26, 27, 28, 29, 30, 31, 32, 33, 34, 35, 36, 37, 38, 39, 40, 41, 42, 200] [x] [8999, 10999, 31999] ty h ty131 h132 := gSg.tr (gSg.ss G122 sS123 (by decide)) g134 (by decide) (by decide) (fun x hx => by cases hx)
  have rw137 := gSg.raw g134 rf124 (fun w => by cases w)
  have rf138 := (rw137.2.2.1.trans kh120)
  have rf139 := (rw137.2.2.2.trans rf125)
  have dd140 := gSg.rawd (ci := 12) (ps := [11, 10, 9, 4, 2]) g134 rf124 (fun w => by cases w) t109 (by decide) dd126
  have t141 : ty131 x = 200 := rw137.1.trans t109
  have t142 : ty131 c3 = 2 := gSg.typ g134 sS123.1 t110 rTk_2
  have t143 : ty131 c23 = 3 := gSg.typ g134 sS123.1 t111 rTk_3
  have t144 : ty131 c46 = 4 := gSg.typ g134 sS123.1 t112 rTk_4
  have t145 : ty131 c72 = 5 := gSg.typ g134 sS123.1 t113 rTk_5
  have t146 : ty131 c101 = 6 := gSg.typ g134 sS123.1 tc101 rTk_6
  have s147 := gSg.rawat g134 rf124 (fun w => by cases w) t109 (by decide) s127
  have s148 := gSg.rawat g134 rf124 (fun w => by cases w) t109 (by decide) s128
  have s149 := gSg.rawat g134 rf124 (fun w => by cases w) t109 (by decide) s129
  have s150 := gSg.rawat g134 rf124 (fun w => by cases w) t109 (by decide) s130
  have s151 := gSg.rawat g134 rf124 (fun w => by cases w) t109 (by decide) eh120
  have pr152 : gNo [1, 8, 9, 10, 11, 12, 13, 14, 15, 16, 17, 18, 19, 20, 21, 22, 23, 24, 25, 26, 27, 28, 29, 30, 31, 32, 33, 34, 35, 36, 37, 38, 39, 40, 41, 42] ty131 := gNo.gr g134 (by decide +kernel) (gNo.sub (by decide +kernel) pr118)
  have sS153 : gSs rT 1027 ty131 [8999, 10999, 31999] h132 h132 := gSs.rf g134.1
  clear G122 dd126 pr118 rf124 rf125 s127 s128 s129 s130 sS123 t109 t110 t111 t112 t113 uq103
  refine gs_rput rfl (by decide) rfl sS153.1 t141 nx rw137.2.1 rf138 rfl (Or.inr rfl) (fun h154 g155 nh154 mh154 kh154 zh154 eh154 fh154 => ?_)
  have G156 : gSg [1, 2, 3, 4, 5, 6, 7, 8, 9, 10, 11, 12, 13, 14, 15, 16, 17, 18, 19, 20, 21, 22, 23, 24, 25, 26, 27, 28, 29, 30, 31, 32, 33, 34, 35, 36, 37, 38, 39, 40, 41, 42, 200] [x] [8999, 10999, 31999] ty h ty131 h154 := gSg.tr (gSg.ss G136 sS153 (by decide)) g155 (by decide) (by decide) (fun x hx => Or.inr hx)
  have sS157 : gSs rT 1027 ty131 [8999, 10999, 31999] h154 h154 := gSs.rf g155.1
  have rf158 := Nat.lt_of_lt_of_eq rw137.2.1 nh154.symm
  have rf159 := zh154.trans rf139
  have dd160 : ∀ k, ¬ k ∈ ([12, 11, 10, 9, 4, 2] : List Nat) → h154.2.2.2.2 x k = defaultValue (gGG.2.1 12 k) := raw_dp fh154 dd140
  have s161 := (fh154 2 (by decide)).trans s147
  have s162 := (fh154 4 (by decide)).trans s148
  have s163 := (fh154 9 (by decide)).trans s149
  have s164 := (fh154 10 (by decide)).trans s150
  have s165 := (fh154 11 (by decide)).trans s151
  clear G136 dd140 rf138 rf139 rw137 s147 s148 s149 s150 s151 sS153
  have lp166 := cmlp166 d hJ x nx c3 c23 c46 c72 c101 c133
  have G3614 : gSg [1, 2, 3, 4, 5, 6, 7, 8, 9, 10, 11, 12, 13, 14, 15, 16, 17, 18, 19, 20, 21, 22, 23, 24, 25, 26, 27, 28, 29, 30, 31, 32, 33, 34, 35, 36, 37, 38, 39, 40, 41, 42, 200] [x] [8999, 10999, 31999] ty h ty131 h154 := gSg.ss G156 sS157 (by decide)
  exact gz_wk (lp166 _ ty131 h154  (Nat.lt_succ_self _) G3614 uq135 t141 t142 t143 t144 t145 t146 tc133 (by omega) (by omega) s161 s162 s163 s164 s165 eh154 pr152 rf158 kh154 rf159 dd160) (gLw.s (gLw.n (gLw.n (gLw.n (gLw.n gLw.z)))))
