/-! ===== the reference is made (by program) ===== -/
def gzuL : List Int := [0, 1, 0, 0, 1, 2, 3, 2, 1, 0, 0, 1, 2, 3, 4, 5, 4, 3, 2, 1, 0, 0, 1, 2, 3, 4, 5, 6, 7, 6, 5, 4, 3, 2, 1, 0, 1, 2, 3, 4, 5, 6, 7, 7, 6, 5, 4, 3, 2, 3, 4, 5, 6, 7, 7, 6, 5, 4, 5, 6, 7, 7, 6, 7, 7]
def gzvL : List Int := [0, 0, 1, 2, 1, 0, 0, 1, 2, 3, 4, 3, 2, 1, 0, 0, 1, 2, 3, 4, 5, 6, 5, 4, 3, 2, 1, 0, 0, 1, 2, 3, 4, 5, 6, 7, 7, 6, 5, 4, 3, 2, 1, 2, 3, 4, 5, 6, 7, 7, 6, 5, 4, 3, 4, 5, 6, 7, 7, 6, 5, 6, 7, 7, 8]
def gzu (n : Nat) : Int := gzuL.getD n 0
def gzv (n : Nat) : Int := gzvL.getD n 0
theorem gzz0_0 : ∀ n : Fin 64, 0 ≤ gzu n.val := by decide +kernel
theorem gzz0_1 : ∀ n : Fin 64, gzu n.val ≤ 7 := by decide +kernel
theorem gzz0_2 : ∀ n : Fin 64, 0 ≤ gzv n.val := by decide +kernel
theorem gzz0_3 : ∀ n : Fin 64, gzv n.val ≤ 7 := by decide +kernel
theorem gzz0_4 : ∀ n : Fin 64, ((gzu n.val + gzv n.val) % 2 = 0 → gzu n.val = 7 → (gzu (n.val + 1) = gzu n.val ∧ gzv (n.val + 1) = gzv n.val + 1)) := by decide +kernel
theorem gzz0_5 : ∀ n : Fin 64, ((gzu n.val + gzv n.val) % 2 = 0 → ¬ gzu n.val = 7 → gzv n.val = 0 → (gzu (n.val + 1) = gzu n.val + 1 ∧ gzv (n.val + 1) = gzv n.val)) := by decide +kernel
theorem gzz0_6 : ∀ n : Fin 64, ((gzu n.val + gzv n.val) % 2 = 0 → ¬ gzu n.val = 7 → ¬ gzv n.val = 0 → (gzu (n.val + 1) = gzu n.val + 1 ∧ gzv (n.val + 1) = gzv n.val - 1)) := by decide +kernel
theorem gzz0_7 : ∀ n : Fin 64, (¬ (gzu n.val + gzv n.val) % 2 = 0 → gzv n.val = 7 → (gzu (n.val + 1) = gzu n.val + 1 ∧ gzv (n.val + 1) = gzv n.val)) := by decide +kernel
theorem gzz0_8 : ∀ n : Fin 64, (¬ (gzu n.val + gzv n.val) % 2 = 0 → ¬ gzv n.val = 7 → gzu n.val = 0 → (gzu (n.val + 1) = gzu n.val ∧ gzv (n.val + 1) = gzv n.val + 1)) := by decide +kernel
theorem gzz0_9 : ∀ n : Fin 64, (¬ (gzu n.val + gzv n.val) % 2 = 0 → ¬ gzv n.val = 7 → ¬ gzu n.val = 0 → (gzu (n.val + 1) = gzu n.val - 1 ∧ gzv (n.val + 1) = gzv n.val + 1)) := by decide +kernel
theorem gzz0 : ∀ n : Fin 64, 0 ≤ gzu n.val ∧ gzu n.val ≤ 7 ∧ 0 ≤ gzv n.val ∧ gzv n.val ≤ 7 ∧ ((gzu n.val + gzv n.val) % 2 = 0 → gzu n.val = 7 → (gzu (n.val + 1) = gzu n.val ∧ gzv (n.val + 1) = gzv n.val + 1)) ∧ ((gzu n.val + gzv n.val) % 2 = 0 → ¬ gzu n.val = 7 → gzv n.val = 0 → (gzu (n.val + 1) = gzu n.val + 1 ∧ gzv (n.val + 1) = gzv n.val)) ∧ ((gzu n.val + gzv n.val) % 2 = 0 → ¬ gzu n.val = 7 → ¬ gzv n.val = 0 → (gzu (n.val + 1) = gzu n.val + 1 ∧ gzv (n.val + 1) = gzv n.val - 1)) ∧ (¬ (gzu n.val + gzv n.val) % 2 = 0 → gzv n.val = 7 → (gzu (n.val + 1) = gzu n.val + 1 ∧ gzv (n.val + 1) = gzv n.val)) ∧ (¬ (gzu n.val + gzv n.val) % 2 = 0 → ¬ gzv n.val = 7 → gzu n.val = 0 → (gzu (n.val + 1) = gzu n.val ∧ gzv (n.val + 1) = gzv n.val + 1)) ∧ (¬ (gzu n.val + gzv n.val) % 2 = 0 → ¬ gzv n.val = 7 → ¬ gzu n.val = 0 → (gzu (n.val + 1) = gzu n.val - 1 ∧ gzv (n.val + 1) = gzv n.val + 1)) := fun n => ⟨gzz0_0 n, gzz0_1 n, gzz0_2 n, gzz0_3 n, gzz0_4 n, gzz0_5 n, gzz0_6 n, gzz0_7 n, gzz0_8 n, gzz0_9 n⟩
theorem gzz {i u v : Int} (h0 : 0 ≤ i) (h1 : i < 64) (eu : u = gzu i.toNat) (ev : v = gzv i.toNat) : (0 ≤ u ∧ u ≤ 7 ∧ 0 ≤ v ∧ v ≤ 7) ∧ ((u + v) % 2 = 0 → u = 7 → (gzu (i + 1).toNat = u ∧ gzv (i + 1).toNat = v + 1)) ∧ ((u + v) % 2 = 0 → ¬ u = 7 → v = 0 → (gzu (i + 1).toNat = u + 1 ∧ gzv (i + 1).toNat = v)) ∧ ((u + v) % 2 = 0 → ¬ u = 7 → ¬ v = 0 → (gzu (i + 1).toNat = u + 1 ∧ gzv (i + 1).toNat = v - 1)) ∧ (¬ (u + v) % 2 = 0 → v = 7 → (gzu (i + 1).toNat = u + 1 ∧ gzv (i + 1).toNat = v)) ∧ (¬ (u + v) % 2 = 0 → ¬ v = 7 → u = 0 → (gzu (i + 1).toNat = u ∧ gzv (i + 1).toNat = v + 1)) ∧ (¬ (u + v) % 2 = 0 → ¬ v = 7 → ¬ u = 0 → (gzu (i + 1).toNat = u - 1 ∧ gzv (i + 1).toNat = v + 1)) := by
  have h := gzz0 ⟨i.toNat, by omega⟩
  have e : (i + 1).toNat = i.toNat + 1 := by omega
  rw [e, eu, ev]
  obtain ⟨a1, a2, a3, a4, b1, b2, b3, b4, b5, b6⟩ := h
  exact ⟨⟨a1, a2, a3, a4⟩, b1, b2, b3, b4, b5, b6⟩
theorem gzE0 : ∀ n : Fin 64, eZz (n.val : Int) = 8 * gzv n.val + gzu n.val := by decide +kernel
theorem gzE {i : Int} (h0 : 0 ≤ i) (h1 : i < 64) : eZz i = 8 * gzv i.toNat + gzu i.toNat := by
  have h := gzE0 ⟨i.toNat, by omega⟩
  have e : ((i.toNat : Nat) : Int) = i := by omega
  rw [← e]
  exact h
theorem rTk_2 : rT 2 = some rg2 := rfl
theorem rTk_3 : rT 3 = some rg3 := rfl
theorem rTk_4 : rT 4 = some rg4 := rfl
theorem rTk_5 : rT 5 = some rg5 := rfl
theorem rTk_6 : rT 6 = some rg6 := rfl
theorem rTk_7 : rT 7 = some rg7 := rfl
theorem rTk_8 : rT 8 = some rg8 := rfl
theorem rTk_9 : rT 9 = some rg9 := rfl
theorem rTk_10 : rT 10 = some rg10 := rfl
theorem rTk_11 : rT 11 = some rg11 := rfl
theorem rTk_12 : rT 12 = some rg12 := rfl
theorem rTk_13 : rT 13 = some rg13 := rfl
theorem rTk_14 : rT 14 = some rg14 := rfl
theorem rTk_15 : rT 15 = some rg15 := rfl
theorem rTk_16 : rT 16 = some rg16 := rfl
theorem rTk_17 : rT 17 = some rg17 := rfl
theorem rTk_18 : rT 18 = some rg18 := rfl
theorem rTk_19 : rT 19 = some rg19 := rfl
theorem rTk_20 : rT 20 = some rg20 := rfl
theorem rTk_21 : rT 21 = some rg21 := rfl
theorem rTk_22 : rT 22 = some rg22 := rfl
theorem rTk_23 : rT 23 = some rg23 := rfl
theorem rTk_24 : rT 24 = some rg24 := rfl
theorem rTk_25 : rT 25 = some rg25 := rfl
theorem rTk_26 : rT 26 = some rg26 := rfl
theorem rTk_27 : rT 27 = some rg27 := rfl
theorem rTk_28 : rT 28 = some rg28 := rfl
theorem rTk_29 : rT 29 = some rg29 := rfl
theorem rTk_30 : rT 30 = some rg30 := rfl
theorem rTk_31 : rT 31 = some rg31 := rfl
theorem rTk_32 : rT 32 = some rg32 := rfl
theorem rTk_33 : rT 33 = some rg33 := rfl
theorem rTk_34 : rT 34 = some rg34 := rfl
theorem rTk_35 : rT 35 = some rg35 := rfl
theorem rTk_36 : rT 36 = some rg36 := rfl
theorem rTk_37 : rT 37 = some rg37 := rfl
theorem rTk_38 : rT 38 = some rg38 := rfl
theorem rTk_39 : rT 39 = some rg39 := rfl
theorem rTk_40 : rT 40 = some rg40 := rfl
theorem rTk_41 : rT 41 = some rg41 := rfl
theorem rTk_42 : rT 42 = some rg42 := rfl
set_option maxRecDepth 20000 in
set_option maxHeartbeats 4000000 in
theorem cmlp3467 (d : Nat) {ty : Nat → Nat} {h : gH} (hJ : gJ rT 1027 ty h) (x : Nat) (nx : 1027 ≤ x) (c3 c23 c46 c72 c101 c133 c171 c209 c250 c294 c341 c391 c447 c503 c562 c624 c689 c760 c831 c905 c982 c1065 c1148 c1234 c1323 c1420 c1519 c1623 c1735 c1849 c1966 c2089 c2212 c2338 c2470 c2602 c2737 c2878 c3019 c3163 c3313 : Nat) : ∀ (fu : Nat) (ty3470 : Nat → Nat) (h3469 : gH) (u : Int) (v : Int) (i : Int), (65 - i).toNat < fu → gSg [1, 2, 3, 4, 5, 6, 7, 8, 9, 10, 11, 12, 13, 14, 15, 16, 17, 18, 19, 20, 21, 22, 23, 24, 25, 26, 27, 28, 29, 30, 31, 32, 33, 34, 35, 36, 37, 38, 39, 40, 41, 42, 200] [x] [8999, 10999, 31999] ty h ty3470 h3469 → gUq ty3470 → ty3470 x = 200 → ty3470 c3 = 2 → ty3470 c23 = 3 → ty3470 c46 = 4 → ty3470 c72 = 5 → ty3470 c101 = 6 → ty3470 c133 = 7 → ty3470 c171 = 8 → ty3470 c209 = 9 → ty3470 c250 = 10 → ty3470 c294 = 11 → ty3470 c341 = 12 → ty3470 c391 = 13 → ty3470 c447 = 14 → ty3470 c503 = 15 → ty3470 c562 = 16 → ty3470 c624 = 17 → ty3470 c689 = 18 → ty3470 c760 = 19 → ty3470 c831 = 20 → ty3470 c905 = 21 → ty3470 c982 = 22 → ty3470 c1065 = 23 → ty3470 c1148 = 24 → ty3470 c1234 = 25 → ty3470 c1323 = 26 → ty3470 c1420 = 27 → ty3470 c1519 = 28 → ty3470 c1623 = 29 → ty3470 c1735 = 30 → ty3470 c1849 = 31 → ty3470 c1966 = 32 → ty3470 c2089 = 33 → ty3470 c2212 = 34 → ty3470 c2338 = 35 → ty3470 c2470 = 36 → ty3470 c2602 = 37 → ty3470 c2737 = 38 → ty3470 c2878 = 39 → ty3470 c3019 = 40 → ty3470 c3163 = 41 → ty3470 c3313 = 42 → (0 ≤ u ∧ u ≤ 8) → (0 ≤ v ∧ v ≤ 8) → (0 ≤ i ∧ i ≤ 64) → (u = gzu i.toNat) → (v = gzv i.toNat) → ((h3469.1 : Int) = h.1 + 41) → ((h3469.2.1 : Int) = h.2.1 + 88652) → h3469.2.2.2.2 x 2 = .ref c3 → h3469.2.2.2.2 x 4 = .ref c23 → h3469.2.2.2.2 x 9 = .ref c46 → h3469.2.2.2.2 x 10 = .ref c72 → h3469.2.2.2.2 x 11 = .ref c101 → h3469.2.2.2.2 x 12 = .ref c133 → h3469.2.2.2.2 x 13 = .ref c171 → h3469.2.2.2.2 x 14 = .ref c209 → h3469.2.2.2.2 x 15 = .ref c250 → h3469.2.2.2.2 x 25 = .ref c294 → h3469.2.2.2.2 x 26 = .ref c341 → h3469.2.2.2.2 x 27 = .ref c391 → h3469.2.2.2.2 x 28 = .ref c447 → h3469.2.2.2.2 x 29 = .ref c503 → h3469.2.2.2.2 x 30 = .ref c562 → h3469.2.2.2.2 x 31 = .ref c624 → h3469.2.2.2.2 x 32 = .ref c689 → h3469.2.2.2.2 x 33 = .ref c760 → h3469.2.2.2.2 x 34 = .ref c831 → h3469.2.2.2.2 x 35 = .ref c905 → h3469.2.2.2.2 x 36 = .ref c982 → h3469.2.2.2.2 x 37 = .ref c1065 → h3469.2.2.2.2 x 38 = .ref c1148 → h3469.2.2.2.2 x 40 = .ref c1234 → h3469.2.2.2.2 x 49 = .ref c1323 → h3469.2.2.2.2 x 54 = .ref c1420 → h3469.2.2.2.2 x 55 = .ref c1519 → h3469.2.2.2.2 x 56 = .ref c1623 → h3469.2.2.2.2 x 57 = .ref c1735 → h3469.2.2.2.2 x 58 = .ref c1849 → h3469.2.2.2.2 x 60 = .ref c1966 → h3469.2.2.2.2 x 63 = .ref c2089 → h3469.2.2.2.2 x 65 = .ref c2212 → h3469.2.2.2.2 x 66 = .ref c2338 → h3469.2.2.2.2 x 68 = .ref c2470 → h3469.2.2.2.2 x 69 = .ref c2602 → h3469.2.2.2.2 x 70 = .ref c2737 → h3469.2.2.2.2 x 71 = .ref c2878 → h3469.2.2.2.2 x 72 = .ref c3019 → h3469.2.2.2.2 x 73 = .ref c3163 → h3469.2.2.2.2 x 76 = .ref c3313 → gNo [1] ty3470 → gRn 1024 ty3470 26 (fun _ => 0) h3469 → gRn 10 ty3470 27 (fun _ => 0) h3469 → gRn 10 ty3470 28 (fun _ => 0) h3469 → gRn 10 ty3470 29 (fun _ => 0) h3469 → gRn 10 ty3470 30 (fun _ => 0) h3469 → gOy ty3470 8 16 256 h3469 → gOy ty3470 31 (-1) i h3469 → gRn (i).toNat ty3470 10 (fun i9 => eZz ((i9 : Nat) : Int)) h3469 → x < h3469.1 → h3469.2.2.1 x = some (.inr 12) → h3469.2.2.2.1 x = 0 → (∀ k, ¬ k ∈ ([76, 73, 72, 71, 70, 69, 68, 66, 65, 63, 60, 58, 57, 56, 55, 54, 49, 40, 38, 37, 36, 35, 34, 33, 32, 31, 30, 29, 28, 27, 26, 25, 15, 14, 13, 12, 11, 10, 9, 4, 2] : List Nat) → h3469.2.2.2.2 x k = defaultValue (gGG.2.1 12 k)) → gz gPP gGG gcn (d + 1) gt130 365 [some (.ref x), some (.int (zi u)), some (.int (zi v)), some (.int (zi i)), none] [] h3469 (fun q _ => ∃ ty9 : Nat → Nat, gSg [1, 2, 3, 4, 5, 6, 7, 8, 9, 10, 11, 12, 13, 14, 15, 16, 17, 18, 19, 20, 21, 22, 23, 24, 25, 26, 27, 28, 29, 30, 31, 32, 33, 34, 35, 36, 37, 38, 39, 40, 41, 42, 200] [x] [8999, 10999, 31999] ty h ty9 q.2.2 ∧ ∃ ip n1 cw ch iv1 wr1 : Int, ty9 x = 1 ∧ gfin gt130 q.1 q.2.1 = some none ∧ q.2.2.2.2.2.2 x 16 = .int (zi ip) ∧ 0 ≤ ip ∧ ip ≤ 1 ∧ q.2.2.2.2.2.2 x 53 = .int (zi n1) ∧ 0 ≤ n1 ∧ n1 ≤ 10 ∧ q.2.2.2.2.2.2 x 50 = .int (zi cw) ∧ 0 ≤ cw ∧ cw ≤ 32 ∧ q.2.2.2.2.2.2 x 51 = .int (zi ch) ∧ 0 ≤ ch ∧ ch ≤ 32 ∧ q.2.2.2.2.2.2 x 52 = .int (zi iv1) ∧ 0 ≤ iv1 ∧ iv1 ≤ 100 ∧ q.2.2.2.2.2.2 x 59 = .int (zi wr1) ∧ 0 ≤ wr1 ∧ wr1 ≤ 60000 ∧ (ip = 0) ∧ (n1 = 0) ∧ (cw = 0) ∧ (ch = 0) ∧ (iv1 = 0) ∧ (wr1 = 0) ∧ ((q.2.2.1 : Int) = h.1 + 41) ∧ ((q.2.2.2.1 : Int) = h.2.1 + 88652) ∧ (gTs ty9 0 q.2.2) ∧ (gMw ty9 (((fun _ => 16, fun _ => 0, fun _ => 0, fun _ => 0, fun _ => 0, fun _ => 0, fun _ => -1), (0, 0, 0, fun _ => 0)) : gSS) q.2.2) ∧ (gRn 64 ty9 10 (fun i9 => eZz ((i9 : Nat) : Int)) q.2.2) ∧ gUq ty9) := by
  intro fu
  induction fu with
  | zero => intro ty3470 h3469 u v i hm; exact absurd hm (Nat.not_lt_zero _)
  | succ fu ihlp3467 =>
    intro ty3470 h3469 u v i lp3467m lp3467G lp3467u lp3467c0 lp3467c1 lp3467c2 lp3467c3 lp3467c4 lp3467c5 lp3467c6 lp3467c7 lp3467c8 lp3467c9 lp3467c10 lp3467c11 lp3467c12 lp3467c13 lp3467c14 lp3467c15 lp3467c16 lp3467c17 lp3467c18 lp3467c19 lp3467c20 lp3467c21 lp3467c22 lp3467c23 lp3467c24 lp3467c25 lp3467c26 lp3467c27 lp3467c28 lp3467c29 lp3467c30 lp3467c31 lp3467c32 lp3467c33 lp3467c34 lp3467c35 lp3467c36 lp3467c37 lp3467c38 lp3467c39 lp3467c40 lp3467c41 lp3467f0 lp3467f1 lp3467f2 lp3467f3 lp3467f4 lp3467f5 lp3467f6 lp3467k0 lp3467k1 lp3467k2 lp3467k3 lp3467k4 lp3467k5 lp3467k6 lp3467k7 lp3467k8 lp3467k9 lp3467k10 lp3467k11 lp3467k12 lp3467k13 lp3467k14 lp3467k15 lp3467k16 lp3467k17 lp3467k18 lp3467k19 lp3467k20 lp3467k21 lp3467k22 lp3467k23 lp3467k24 lp3467k25 lp3467k26 lp3467k27 lp3467k28 lp3467k29 lp3467k30 lp3467k31 lp3467k32 lp3467k33 lp3467k34 lp3467k35 lp3467k36 lp3467k37 lp3467k38 lp3467k39 lp3467k40 lp3467k41 lp3467k42 lp3467k43 lp3467k44 lp3467k45 lp3467k46 lp3467k47 lp3467k48 lp3467k49 lp3467w0 lp3467w1 lp3467w2 lp3467w3
    have sh3469 : gSs rT 1027 ty3470 [8999, 10999, 31999] h3469 h3469 := gSs.rf lp3467G.1
    refine gz_s 2 (pc' := 368) (L' := [some (.ref x), some (.int (zi u)), some (.int (zi v)), some (.int (zi i)), none]) (S' := [.int (zi 64), .int (zi i)]) rfl ?_
    by_cases hc3471 : (64 : Int) ≤ i
    · refine gy_icT (pc' := 475) rfl (by decide) (by decide) (by omega) (by omega) hc3471 ?_
      have df3472 := (show h3469.2.2.2.2 x 0 = .int (zi 0) from lp3467w3 0 (by decide))
      have df3473 := (show h3469.2.2.2.2 x 1 = .int (zi 0) from lp3467w3 1 (by decide))
      have df3474 := (show h3469.2.2.2.2 x 3 = .int (zi 0) from lp3467w3 3 (by decide))
      have df3475 := (show h3469.2.2.2.2 x 5 = .int (zi 0) from lp3467w3 5 (by decide))
      have df3476 := (show h3469.2.2.2.2 x 6 = .int (zi 0) from lp3467w3 6 (by decide))
      have df3477 := (show h3469.2.2.2.2 x 7 = .int (zi 0) from lp3467w3 7 (by decide))
      have df3478 := (show h3469.2.2.2.2 x 8 = .int (zi 0) from lp3467w3 8 (by decide))
      have df3479 := (show h3469.2.2.2.2 x 16 = .int (zi 0) from lp3467w3 16 (by decide))
      have df3480 := (show h3469.2.2.2.2 x 17 = .int (zi 0) from lp3467w3 17 (by decide))
      have df3481 := (show h3469.2.2.2.2 x 18 = .int (zi 0) from lp3467w3 18 (by decide))
      have df3482 := (show h3469.2.2.2.2 x 19 = .int (zi 0) from lp3467w3 19 (by decide))
      have df3483 := (show h3469.2.2.2.2 x 20 = .int (zi 0) from lp3467w3 20 (by decide))
      have df3484 := (show h3469.2.2.2.2 x 21 = .int (zi 0) from lp3467w3 21 (by decide))
      have df3485 := (show h3469.2.2.2.2 x 22 = .int (zi 0) from lp3467w3 22 (by decide))
      have df3486 := (show h3469.2.2.2.2 x 23 = .int (zi 0) from lp3467w3 23 (by decide))
      have df3487 := (show h3469.2.2.2.2 x 24 = .int (zi 0) from lp3467w3 24 (by decide))
      have df3488 := (show h3469.2.2.2.2 x 39 = .int (zi 0) from lp3467w3 39 (by decide))
      have df3489 := (show h3469.2.2.2.2 x 41 = .int (zi 0) from lp3467w3 41 (by decide))
      have df3490 := (show h3469.2.2.2.2 x 42 = .int (zi 0) from lp3467w3 42 (by decide))
      have df3491 := (show h3469.2.2.2.2 x 43 = .int (zi 0) from lp3467w3 43 (by decide))
      have df3492 := (show h3469.2.2.2.2 x 44 = .int (zi 0) from lp3467w3 44 (by decide))
      have df3493 := (show h3469.2.2.2.2 x 45 = .int (zi 0) from lp3467w3 45 (by decide))
      have df3494 := (show h3469.2.2.2.2 x 46 = .int (zi 0) from lp3467w3 46 (by decide))
      have df3495 := (show h3469.2.2.2.2 x 47 = .int (zi 0) from lp3467w3 47 (by decide))
      have df3496 := (show h3469.2.2.2.2 x 48 = .int (zi 0) from lp3467w3 48 (by decide))
      have df3497 := (show h3469.2.2.2.2 x 50 = .int (zi 0) from lp3467w3 50 (by decide))
      have df3498 := (show h3469.2.2.2.2 x 51 = .int (zi 0) from lp3467w3 51 (by decide))
      have df3499 := (show h3469.2.2.2.2 x 52 = .int (zi 0) from lp3467w3 52 (by decide))
      have df3500 := (show h3469.2.2.2.2 x 53 = .int (zi 0) from lp3467w3 53 (by decide))
      have df3501 := (show h3469.2.2.2.2 x 59 = .int (zi 0) from lp3467w3 59 (by decide))
      have df3502 := (show h3469.2.2.2.2 x 61 = .int (zi 0) from lp3467w3 61 (by decide))
      have df3503 := (show h3469.2.2.2.2 x 62 = .int (zi 0) from lp3467w3 62 (by decide))
      have df3504 := (show h3469.2.2.2.2 x 64 = .int (zi 0) from lp3467w3 64 (by decide))
      have df3505 := (show h3469.2.2.2.2 x 67 = .int (zi 0) from lp3467w3 67 (by decide))
      have df3506 := (show h3469.2.2.2.2 x 74 = .int (zi 0) from lp3467w3 74 (by decide))
      have df3507 := (show h3469.2.2.2.2 x 75 = .int (zi 0) from lp3467w3 75 (by decide))
      obtain ⟨ty3509, g3508, tg3508, ug3508⟩ := gSg.adx 1 sh3469.1 lp3467c0 nx lp3467w0 rfl lp3467w1 (by show (0 : Nat) ≤ _; have h9 := lp3467w2; omega) (by show _ ≤ (0 : Nat); have h9 := lp3467w2; omega) (fun ty9 w9 k hk => ad1 (by rw [df3472]; exact ⟨0, rfl, by show (0 : Int) ≤ _; omega, by show _ ≤ (2 : Int); omega⟩) (by rw [df3473]; exact ⟨0, rfl, by show (0 : Int) ≤ _; omega, by show _ ≤ (2000 : Int); omega⟩) (by rw [lp3467k0]; exact ⟨c3, rfl, w9 c3 _ lp3467c1 (by decide)⟩) (by rw [df3474]; exact ⟨0, rfl, by show (0 : Int) ≤ _; omega, by show _ ≤ (2000 : Int); omega⟩) (by rw [lp3467k1]; exact ⟨c23, rfl, w9 c23 _ lp3467c2 (by decide)⟩) (by rw [df3475]; exact ⟨0, rfl, by show (0 : Int) ≤ _; omega, by show _ ≤ (4000 : Int); omega⟩) (by rw [df3476]; exact ⟨0, rfl, by show (0 : Int) ≤ _; omega, by show _ ≤ (2000 : Int); omega⟩) (by rw [df3477]; exact ⟨0, rfl, by show ((-1) : Int) ≤ _; omega, by show _ ≤ (4000 : Int); omega⟩) (by rw [df3478]; exact ⟨0, rfl, by show (0 : Int) ≤ _; omega, by show _ ≤ (65535 : Int); omega⟩) (by rw [lp3467k2]; exact ⟨c46, rfl, w9 c46 _ lp3467c3 (by decide)⟩) (by rw [lp3467k3]; exact ⟨c72, rfl, w9 c72 _ lp3467c4 (by decide)⟩) (by rw [lp3467k4]; exact ⟨c101, rfl, w9 c101 _ lp3467c5 (by decide)⟩) (by rw [lp3467k5]; exact ⟨c133, rfl, w9 c133 _ lp3467c6 (by decide)⟩) (by rw [lp3467k6]; exact ⟨c171, rfl, w9 c171 _ lp3467c7 (by decide)⟩) (by rw [lp3467k7]; exact ⟨c209, rfl, w9 c209 _ lp3467c8 (by decide)⟩) (by rw [lp3467k8]; exact ⟨c250, rfl, w9 c250 _ lp3467c9 (by decide)⟩) (by rw [df3479]; exact ⟨0, rfl, by show (0 : Int) ≤ _; omega, by show _ ≤ (1 : Int); omega⟩) (by rw [df3480]; exact ⟨0, rfl, by show (0 : Int) ≤ _; omega, by show _ ≤ (1 : Int); omega⟩) (by rw [df3481]; exact ⟨0, rfl, by show (0 : Int) ≤ _; omega, by show _ ≤ (64 : Int); omega⟩) (by rw [df3482]; exact ⟨0, rfl, by show (0 : Int) ≤ _; omega, by show _ ≤ (64 : Int); omega⟩) (by rw [df3483]; exact ⟨0, rfl, by show (0 : Int) ≤ _; omega, by show _ ≤ (3 : Int); omega⟩) (by rw [df3484]; exact ⟨0, rfl, by show (0 : Int) ≤ _; omega, by show _ ≤ (2 : Int); omega⟩) (by rw [df3485]; exact ⟨0, rfl, by show (0 : Int) ≤ _; omega, by show _ ≤ (2 : Int); omega⟩) (by rw [df3486]; exact ⟨0, rfl, by show (0 : Int) ≤ _; omega, by show _ ≤ (192 : Int); omega⟩) (by rw [df3487]; exact ⟨0, rfl, by show ((-2147483648) : Int) ≤ _; omega, by show _ ≤ (2147483647 : Int); omega⟩) (by rw [lp3467k9]; exact ⟨c294, rfl, w9 c294 _ lp3467c10 (by decide)⟩) (by rw [lp3467k10]; exact ⟨c341, rfl, w9 c341 _ lp3467c11 (by decide)⟩) (by rw [lp3467k11]; exact ⟨c391, rfl, w9 c391 _ lp3467c12 (by decide)⟩) (by rw [lp3467k12]; exact ⟨c447, rfl, w9 c447 _ lp3467c13 (by decide)⟩) (by rw [lp3467k13]; exact ⟨c503, rfl, w9 c503 _ lp3467c14 (by decide)⟩) (by rw [lp3467k14]; exact ⟨c562, rfl, w9 c562 _ lp3467c15 (by decide)⟩) (by rw [lp3467k15]; exact ⟨c624, rfl, w9 c624 _ lp3467c16 (by decide)⟩) (by rw [lp3467k16]; exact ⟨c689, rfl, w9 c689 _ lp3467c17 (by decide)⟩) (by rw [lp3467k17]; exact ⟨c760, rfl, w9 c760 _ lp3467c18 (by decide)⟩) (by rw [lp3467k18]; exact ⟨c831, rfl, w9 c831 _ lp3467c19 (by decide)⟩) (by rw [lp3467k19]; exact ⟨c905, rfl, w9 c905 _ lp3467c20 (by decide)⟩) (by rw [lp3467k20]; exact ⟨c982, rfl, w9 c982 _ lp3467c21 (by decide)⟩) (by rw [lp3467k21]; exact ⟨c1065, rfl, w9 c1065 _ lp3467c22 (by decide)⟩) (by rw [lp3467k22]; exact ⟨c1148, rfl, w9 c1148 _ lp3467c23 (by decide)⟩) (by rw [df3488]; exact ⟨0, rfl, by show (0 : Int) ≤ _; omega, by show _ ≤ (3 : Int); omega⟩) (by rw [lp3467k23]; exact ⟨c1234, rfl, w9 c1234 _ lp3467c24 (by decide)⟩) (by rw [df3489]; exact ⟨0, rfl, by show (0 : Int) ≤ _; omega, by show _ ≤ (255 : Int); omega⟩) (by rw [df3490]; exact ⟨0, rfl, by show (0 : Int) ≤ _; omega, by show _ ≤ (255 : Int); omega⟩) (by rw [df3491]; exact ⟨0, rfl, by show (0 : Int) ≤ _; omega, by show _ ≤ (15 : Int); omega⟩) (by rw [df3492]; exact ⟨0, rfl, by show (0 : Int) ≤ _; omega, by show _ ≤ (15 : Int); omega⟩) (by rw [df3493]; exact ⟨0, rfl, by show ((-2147483648) : Int) ≤ _; omega, by show _ ≤ (2147483647 : Int); omega⟩) (by rw [df3494]; exact ⟨0, rfl, by show (0 : Int) ≤ _; omega, by show _ ≤ (1 : Int); omega⟩) (by rw [df3495]; exact ⟨0, rfl, by show (0 : Int) ≤ _; omega, by show _ ≤ (4000 : Int); omega⟩) (by rw [df3496]; exact ⟨0, rfl, by show (0 : Int) ≤ _; omega, by show _ ≤ (8 : Int); omega⟩) (by rw [lp3467k24]; exact ⟨c1323, rfl, w9 c1323 _ lp3467c25 (by decide)⟩) (by rw [df3497]; exact ⟨0, rfl, by show (0 : Int) ≤ _; omega, by show _ ≤ (32 : Int); omega⟩) (by rw [df3498]; exact ⟨0, rfl, by show (0 : Int) ≤ _; omega, by show _ ≤ (32 : Int); omega⟩) (by rw [df3499]; exact ⟨0, rfl, by show (0 : Int) ≤ _; omega, by show _ ≤ (100 : Int); omega⟩) (by rw [df3500]; exact ⟨0, rfl, by show (0 : Int) ≤ _; omega, by show _ ≤ (10 : Int); omega⟩) (by rw [lp3467k25]; exact ⟨c1420, rfl, w9 c1420 _ lp3467c26 (by decide)⟩) (by rw [lp3467k26]; exact ⟨c1519, rfl, w9 c1519 _ lp3467c27 (by decide)⟩) (by rw [lp3467k27]; exact ⟨c1623, rfl, w9 c1623 _ lp3467c28 (by decide)⟩) (by rw [lp3467k28]; exact ⟨c1735, rfl, w9 c1735 _ lp3467c29 (by decide)⟩) (by rw [lp3467k29]; exact ⟨c1849, rfl, w9 c1849 _ lp3467c30 (by decide)⟩) (by rw [df3501]; exact ⟨0, rfl, by show (0 : Int) ≤ _; omega, by show _ ≤ (60000 : Int); omega⟩) (by rw [lp3467k30]; exact ⟨c1966, rfl, w9 c1966 _ lp3467c31 (by decide)⟩) (by rw [df3502]; exact ⟨0, rfl, by show ((-2147483648) : Int) ≤ _; omega, by show _ ≤ (2147483647 : Int); omega⟩) (by rw [df3503]; exact ⟨0, rfl, by show (0 : Int) ≤ _; omega, by show _ ≤ (8 : Int); omega⟩) (by rw [lp3467k31]; exact ⟨c2089, rfl, w9 c2089 _ lp3467c32 (by decide)⟩) (by rw [df3504]; exact ⟨0, rfl, by show (0 : Int) ≤ _; omega, by show _ ≤ (16 : Int); omega⟩) (by rw [lp3467k32]; exact ⟨c2212, rfl, w9 c2212 _ lp3467c33 (by decide)⟩) (by rw [lp3467k33]; exact ⟨c2338, rfl, w9 c2338 _ lp3467c34 (by decide)⟩) (by rw [df3505]; exact ⟨0, rfl, by show (0 : Int) ≤ _; omega, by show _ ≤ (1 : Int); omega⟩) (by rw [lp3467k34]; exact ⟨c2470, rfl, w9 c2470 _ lp3467c35 (by decide)⟩) (by rw [lp3467k35]; exact ⟨c2602, rfl, w9 c2602 _ lp3467c36 (by decide)⟩) (by rw [lp3467k36]; exact ⟨c2737, rfl, w9 c2737 _ lp3467c37 (by decide)⟩) (by rw [lp3467k37]; exact ⟨c2878, rfl, w9 c2878 _ lp3467c38 (by decide)⟩) (by rw [lp3467k38]; exact ⟨c3019, rfl, w9 c3019 _ lp3467c39 (by decide)⟩) (by rw [lp3467k39]; exact ⟨c3163, rfl, w9 c3163 _ lp3467c40 (by decide)⟩) (by rw [df3506]; exact ⟨0, rfl, by show ((-2048) : Int) ≤ _; omega, by show _ ≤ (2048 : Int); omega⟩) (by rw [df3507]; exact ⟨0, rfl, by show (0 : Int) ≤ _; omega, by show _ ≤ (64 : Int); omega⟩) (by rw [lp3467k40]; exact ⟨c3313, rfl, w9 c3313 _ lp3467c41 (by decide)⟩) k)
      have uq3510 := ug3508 lp3467u (Or.inr lp3467k41)
      have G3511 : gSg [1, 2, 3, 4, 5, 6, 7, 8, 9, 10, 11, 12, 13, 14, 15, 16, 17, 18, 19, 20, 21, 22, 23, 24, 25, 26, 27, 28, 29, 30, 31, 32, 33, 34, 35, 36, 37, 38, 39, 40, 41, 42, 200] [x] [8999, 10999, 31999] ty h ty3509 h3469 := gSg.tr (gSg.ss lp3467G sh3469 (by decide)) g3508 (by decide) (by decide) (fun x hx => Or.inr hx)
      have t3512 : ty3509 c3 = 2 := gSg.typ g3508 sh3469.1 lp3467c1 rTk_2
      have t3513 : ty3509 c23 = 3 := gSg.typ g3508 sh3469.1 lp3467c2 rTk_3
      have t3514 : ty3509 c46 = 4 := gSg.typ g3508 sh3469.1 lp3467c3 rTk_4
      have t3515 : ty3509 c72 = 5 := gSg.typ g3508 sh3469.1 lp3467c4 rTk_5
      have t3516 : ty3509 c101 = 6 := gSg.typ g3508 sh3469.1 lp3467c5 rTk_6
      have t3517 : ty3509 c133 = 7 := gSg.typ g3508 sh3469.1 lp3467c6 rTk_7
      have t3518 : ty3509 c171 = 8 := gSg.typ g3508 sh3469.1 lp3467c7 rTk_8
      have t3519 : ty3509 c209 = 9 := gSg.typ g3508 sh3469.1 lp3467c8 rTk_9
      have t3520 : ty3509 c250 = 10 := gSg.typ g3508 sh3469.1 lp3467c9 rTk_10
      have t3521 : ty3509 c294 = 11 := gSg.typ g3508 sh3469.1 lp3467c10 rTk_11
      have t3522 : ty3509 c341 = 12 := gSg.typ g3508 sh3469.1 lp3467c11 rTk_12
      have t3523 : ty3509 c391 = 13 := gSg.typ g3508 sh3469.1 lp3467c12 rTk_13
      have t3524 : ty3509 c447 = 14 := gSg.typ g3508 sh3469.1 lp3467c13 rTk_14
      have t3525 : ty3509 c503 = 15 := gSg.typ g3508 sh3469.1 lp3467c14 rTk_15
      have t3526 : ty3509 c562 = 16 := gSg.typ g3508 sh3469.1 lp3467c15 rTk_16
      have t3527 : ty3509 c624 = 17 := gSg.typ g3508 sh3469.1 lp3467c16 rTk_17
      have t3528 : ty3509 c689 = 18 := gSg.typ g3508 sh3469.1 lp3467c17 rTk_18
      have t3529 : ty3509 c760 = 19 := gSg.typ g3508 sh3469.1 lp3467c18 rTk_19
      have t3530 : ty3509 c831 = 20 := gSg.typ g3508 sh3469.1 lp3467c19 rTk_20
      have t3531 : ty3509 c905 = 21 := gSg.typ g3508 sh3469.1 lp3467c20 rTk_21
      have t3532 : ty3509 c982 = 22 := gSg.typ g3508 sh3469.1 lp3467c21 rTk_22
      have t3533 : ty3509 c1065 = 23 := gSg.typ g3508 sh3469.1 lp3467c22 rTk_23
      have t3534 : ty3509 c1148 = 24 := gSg.typ g3508 sh3469.1 lp3467c23 rTk_24
      have t3535 : ty3509 c1234 = 25 := gSg.typ g3508 sh3469.1 lp3467c24 rTk_25
      have t3536 : ty3509 c1323 = 26 := gSg.typ g3508 sh3469.1 lp3467c25 rTk_26
      have t3537 : ty3509 c1420 = 27 := gSg.typ g3508 sh3469.1 lp3467c26 rTk_27
      have t3538 : ty3509 c1519 = 28 := gSg.typ g3508 sh3469.1 lp3467c27 rTk_28
      have t3539 : ty3509 c1623 = 29 := gSg.typ g3508 sh3469.1 lp3467c28 rTk_29
      have t3540 : ty3509 c1735 = 30 := gSg.typ g3508 sh3469.1 lp3467c29 rTk_30
      have t3541 : ty3509 c1849 = 31 := gSg.typ g3508 sh3469.1 lp3467c30 rTk_31
      have t3542 : ty3509 c1966 = 32 := gSg.typ g3508 sh3469.1 lp3467c31 rTk_32
      have t3543 : ty3509 c2089 = 33 := gSg.typ g3508 sh3469.1 lp3467c32 rTk_33
      have t3544 : ty3509 c2212 = 34 := gSg.typ g3508 sh3469.1 lp3467c33 rTk_34
      have t3545 : ty3509 c2338 = 35 := gSg.typ g3508 sh3469.1 lp3467c34 rTk_35
      have t3546 : ty3509 c2470 = 36 := gSg.typ g3508 sh3469.1 lp3467c35 rTk_36
      have t3547 : ty3509 c2602 = 37 := gSg.typ g3508 sh3469.1 lp3467c36 rTk_37
      have t3548 : ty3509 c2737 = 38 := gSg.typ g3508 sh3469.1 lp3467c37 rTk_38
      have t3549 : ty3509 c2878 = 39 := gSg.typ g3508 sh3469.1 lp3467c38 rTk_39
      have t3550 : ty3509 c3019 = 40 := gSg.typ g3508 sh3469.1 lp3467c39 rTk_40
      have t3551 : ty3509 c3163 = 41 := gSg.typ g3508 sh3469.1 lp3467c40 rTk_41
      have t3552 : ty3509 c3313 = 42 := gSg.typ g3508 sh3469.1 lp3467c41 rTk_42
      have pr3553 := gRn.gr g3508 sh3469.1 rfl (by decide) (by decide) lp3467k42
      have pr3554 := gRn.gr g3508 sh3469.1 rfl (by decide) (by decide) lp3467k43
      have pr3555 := gRn.gr g3508 sh3469.1 rfl (by decide) (by decide) lp3467k44
      have pr3556 := gRn.gr g3508 sh3469.1 rfl (by decide) (by decide) lp3467k45
      have pr3557 := gRn.gr g3508 sh3469.1 rfl (by decide) (by decide) lp3467k46
      have pr3558 := gOy.gr g3508 sh3469.1 rfl (by decide) (by decide) lp3467k47
      have pr3559 := gOy.gr g3508 sh3469.1 rfl (by decide) (by decide) lp3467k48
      have pr3560 := gRn.gr g3508 sh3469.1 rfl (by decide) (by decide) lp3467k49
      have sS3561 : gSs rT 1027 ty3509 [8999, 10999, 31999] h3469 h3469 := gSs.rf g3508.1
      have hts3562 : gTs ty3509 0 h3469 := gTs.anew (gRow.mk uq3510 t3537 (by decide) (fun _ => rfl)) (gRow.mk uq3510 t3538 (by decide) (fun _ => rfl)) (by have e9 := pr3559; rw [(by omega : i = 64)] at e9; exact e9)
      have hmw3563c : gOy ty3509 31 (-1) 64 h3469 := by
        have e9 := pr3559
        rw [(by omega : i = 64)] at e9
        exact e9
      have hmw3563 : gMw ty3509 (((fun _ => 16, fun _ => 0, fun _ => 0, fun _ => 0, fun _ => 0, fun _ => 0, fun _ => -1), (0, 0, 0, fun _ => 0)) : gSS) h3469 := ⟨gOy.Rn (by decide) pr3558, pr3553, pr3554, pr3555, pr3556, pr3557, gOy.Rn (by decide) hmw3563c⟩
      have hrw3564 : gRn 64 ty3509 10 (fun i9 => eZz ((i9 : Nat) : Int)) h3469 := by
        have e9 := pr3560
        rw [(by omega : (i).toNat = 64)] at e9
        exact e9
      have G3565 : gSg [1, 2, 3, 4, 5, 6, 7, 8, 9, 10, 11, 12, 13, 14, 15, 16, 17, 18, 19, 20, 21, 22, 23, 24, 25, 26, 27, 28, 29, 30, 31, 32, 33, 34, 35, 36, 37, 38, 39, 40, 41, 42, 200] [x] [8999, 10999, 31999] ty h ty3509 h3469 := gSg.ss G3511 sS3561 (by decide)
      exact gz_end (I := .return_) (len := 1) rfl (Or.inl rfl) ⟨ty3509, G3565, 0, 0, 0, 0, 0, 0, tg3508, rfl, df3479, (by omega), (by omega), df3500, (by omega), (by omega), df3497, (by omega), (by omega), df3498, (by omega), (by omega), df3499, (by omega), (by omega), df3501, (by omega), (by omega), (by omega), (by omega), (by omega), (by omega), (by omega), (by omega), (by dsimp only; omega), (by dsimp only; omega), hts3562, hmw3563, hrw3564, uq3510⟩
    · refine gy_icF rfl (by decide) (by decide) (by omega) (by omega) hc3471 ?_
      have hzz := gzz (i := i) (u := u) (v := v) (by omega) (by omega) (by omega) (by omega)
      refine gz_s 1 (pc' := 372) (L' := [some (.ref x), some (.int (zi u)), some (.int (zi v)), some (.int (zi i)), none]) (S' := [.ref x]) rfl ?_
      refine gz_get rfl (by decide) rfl nx lp3467w0 lp3467w1 lp3467k8 ?_
      refine gy_s 6 (pc' := 382) (L' := [some (.ref x), some (.int (zi u)), some (.int (zi v)), some (.int (zi i)), none]) (S' := [.int (((zi 8) * (zi v)) + (zi u)), .int (zi i), .ref c250]) (L2 := [some (.ref x), some (.int (zi u)), some (.int (zi v)), some (.int (zi i)), none]) (S2 := [.int (zi ((8 * v) + u)), .int (zi i), .ref c250]) rfl (by simp only [zi_add, zi_sub, zi_mul, zi_neg, zi_and1, zi_and7, zi_and15, zi_and31, zi_and255]) (by simp only [zi_add, zi_sub, zi_mul, zi_neg, zi_and1, zi_and7, zi_and15, zi_and31, zi_and255]) ?_
      have hl3566 : 64 ≤ h3469.2.2.2.1 c250 ∧ h3469.2.2.2.1 c250 ≤ 64 := gJ.rowl (G := gGG) sh3469.1 lp3467c9 rfl
      refine gs_ast rfl (by decide) sh3469 lp3467c9 rfl rfl rfl (by decide) (fun _ => rfl) (by omega) (by omega) (fun _ => (by decide : (10999 : Nat) ∈ ([8999, 10999, 31999] : List Nat))) (by omega) (by omega) (fun h3567 sh3567 eh3567 fh3567 => ?_)
      have pr3568 := gRn.pt fh3567 lp3467c9 (by decide) lp3467k42
      have pr3569 := gRn.pt fh3567 lp3467c9 (by decide) lp3467k43
      have pr3570 := gRn.pt fh3567 lp3467c9 (by decide) lp3467k44
      have pr3571 := gRn.pt fh3567 lp3467c9 (by decide) lp3467k45
      have pr3572 := gRn.pt fh3567 lp3467c9 (by decide) lp3467k46
      have pr3573 := gOy.pt fh3567 lp3467c9 (by decide) lp3467k47
      have pr3574 := gOy.pt fh3567 lp3467c9 (by decide) lp3467k48
      have s3575 := (fh3567 x 2 (fun q => absurd (((lp3467c0).symm.trans (congrArg ty3470 q.1)).trans lp3467c9) (by decide))).trans lp3467k0
      have s3576 := (fh3567 x 4 (fun q => absurd (((lp3467c0).symm.trans (congrArg ty3470 q.1)).trans lp3467c9) (by decide))).trans lp3467k1
      have s3577 := (fh3567 x 9 (fun q => absurd (((lp3467c0).symm.trans (congrArg ty3470 q.1)).trans lp3467c9) (by decide))).trans lp3467k2
      have s3578 := (fh3567 x 10 (fun q => absurd (((lp3467c0).symm.trans (congrArg ty3470 q.1)).trans lp3467c9) (by decide))).trans lp3467k3
      have s3579 := (fh3567 x 11 (fun q => absurd (((lp3467c0).symm.trans (congrArg ty3470 q.1)).trans lp3467c9) (by decide))).trans lp3467k4
      have s3580 := (fh3567 x 12 (fun q => absurd (((lp3467c0).symm.trans (congrArg ty3470 q.1)).trans lp3467c9) (by decide))).trans lp3467k5
      have s3581 := (fh3567 x 13 (fun q => absurd (((lp3467c0).symm.trans (congrArg ty3470 q.1)).trans lp3467c9) (by decide))).trans lp3467k6
      have s3582 := (fh3567 x 14 (fun q => absurd (((lp3467c0).symm.trans (congrArg ty3470 q.1)).trans lp3467c9) (by decide))).trans lp3467k7
      have s3583 := (fh3567 x 15 (fun q => absurd (((lp3467c0).symm.trans (congrArg ty3470 q.1)).trans lp3467c9) (by decide))).trans lp3467k8
      have s3584 := (fh3567 x 25 (fun q => absurd (((lp3467c0).symm.trans (congrArg ty3470 q.1)).trans lp3467c9) (by decide))).trans lp3467k9
      have s3585 := (fh3567 x 26 (fun q => absurd (((lp3467c0).symm.trans (congrArg ty3470 q.1)).trans lp3467c9) (by decide))).trans lp3467k10
      have s3586 := (fh3567 x 27 (fun q => absurd (((lp3467c0).symm.trans (congrArg ty3470 q.1)).trans lp3467c9) (by decide))).trans lp3467k11
      have s3587 := (fh3567 x 28 (fun q => absurd (((lp3467c0).symm.trans (congrArg ty3470 q.1)).trans lp3467c9) (by decide))).trans lp3467k12
      have s3588 := (fh3567 x 29 (fun q => absurd (((lp3467c0).symm.trans (congrArg ty3470 q.1)).trans lp3467c9) (by decide))).trans lp3467k13
      have s3589 := (fh3567 x 30 (fun q => absurd (((lp3467c0).symm.trans (congrArg ty3470 q.1)).trans lp3467c9) (by decide))).trans lp3467k14
      have s3590 := (fh3567 x 31 (fun q => absurd (((lp3467c0).symm.trans (congrArg ty3470 q.1)).trans lp3467c9) (by decide))).trans lp3467k15
      have s3591 := (fh3567 x 32 (fun q => absurd (((lp3467c0).symm.trans (congrArg ty3470 q.1)).trans lp3467c9) (by decide))).trans lp3467k16
      have s3592 := (fh3567 x 33 (fun q => absurd (((lp3467c0).symm.trans (congrArg ty3470 q.1)).trans lp3467c9) (by decide))).trans lp3467k17
      have s3593 := (fh3567 x 34 (fun q => absurd (((lp3467c0).symm.trans (congrArg ty3470 q.1)).trans lp3467c9) (by decide))).trans lp3467k18
      have s3594 := (fh3567 x 35 (fun q => absurd (((lp3467c0).symm.trans (congrArg ty3470 q.1)).trans lp3467c9) (by decide))).trans lp3467k19
      have s3595 := (fh3567 x 36 (fun q => absurd (((lp3467c0).symm.trans (congrArg ty3470 q.1)).trans lp3467c9) (by decide))).trans lp3467k20
      have s3596 := (fh3567 x 37 (fun q => absurd (((lp3467c0).symm.trans (congrArg ty3470 q.1)).trans lp3467c9) (by decide))).trans lp3467k21
      have s3597 := (fh3567 x 38 (fun q => absurd (((lp3467c0).symm.trans (congrArg ty3470 q.1)).trans lp3467c9) (by decide))).trans lp3467k22
      have s3598 := (fh3567 x 40 (fun q => absurd (((lp3467c0).symm.trans (congrArg ty3470 q.1)).trans lp3467c9) (by decide))).trans lp3467k23
      have s3599 := (fh3567 x 49 (fun q => absurd (((lp3467c0).symm.trans (congrArg ty3470 q.1)).trans lp3467c9) (by decide))).trans lp3467k24
      have s3600 := (fh3567 x 54 (fun q => absurd (((lp3467c0).symm.trans (congrArg ty3470 q.1)).trans lp3467c9) (by decide))).trans lp3467k25
      have s3601 := (fh3567 x 55 (fun q => absurd (((lp3467c0).symm.trans (congrArg ty3470 q.1)).trans lp3467c9) (by decide))).trans lp3467k26
      have s3602 := (fh3567 x 56 (fun q => absurd (((lp3467c0).symm.trans (congrArg ty3470 q.1)).trans lp3467c9) (by decide))).trans lp3467k27
      have s3603 := (fh3567 x 57 (fun q => absurd (((lp3467c0).symm.trans (congrArg ty3470 q.1)).trans lp3467c9) (by decide))).trans lp3467k28
      have s3604 := (fh3567 x 58 (fun q => absurd (((lp3467c0).symm.trans (congrArg ty3470 q.1)).trans lp3467c9) (by decide))).trans lp3467k29
      have s3605 := (fh3567 x 60 (fun q => absurd (((lp3467c0).symm.trans (congrArg ty3470 q.1)).trans lp3467c9) (by decide))).trans lp3467k30
      have s3606 := (fh3567 x 63 (fun q => absurd (((lp3467c0).symm.trans (congrArg ty3470 q.1)).trans lp3467c9) (by decide))).trans lp3467k31
      have s3607 := (fh3567 x 65 (fun q => absurd (((lp3467c0).symm.trans (congrArg ty3470 q.1)).trans lp3467c9) (by decide))).trans lp3467k32
      have s3608 := (fh3567 x 66 (fun q => absurd (((lp3467c0).symm.trans (congrArg ty3470 q.1)).trans lp3467c9) (by decide))).trans lp3467k33
      have s3609 := (fh3567 x 68 (fun q => absurd (((lp3467c0).symm.trans (congrArg ty3470 q.1)).trans lp3467c9) (by decide))).trans lp3467k34
      have s3610 := (fh3567 x 69 (fun q => absurd (((lp3467c0).symm.trans (congrArg ty3470 q.1)).trans lp3467c9) (by decide))).trans lp3467k35
      have s3611 := (fh3567 x 70 (fun q => absurd (((lp3467c0).symm.trans (congrArg ty3470 q.1)).trans lp3467c9) (by decide))).trans lp3467k36
      have s3612 := (fh3567 x 71 (fun q => absurd (((lp3467c0).symm.trans (congrArg ty3470 q.1)).trans lp3467c9) (by decide))).trans lp3467k37
      have s3613 := (fh3567 x 72 (fun q => absurd (((lp3467c0).symm.trans (congrArg ty3470 q.1)).trans lp3467c9) (by decide))).trans lp3467k38
      have s3614 := (fh3567 x 73 (fun q => absurd (((lp3467c0).symm.trans (congrArg ty3470 q.1)).trans lp3467c9) (by decide))).trans lp3467k39
      have s3615 := (fh3567 x 76 (fun q => absurd (((lp3467c0).symm.trans (congrArg ty3470 q.1)).trans lp3467c9) (by decide))).trans lp3467k40
      have dd3616 : ∀ k, ¬ k ∈ ([76, 73, 72, 71, 70, 69, 68, 66, 65, 63, 60, 58, 57, 56, 55, 54, 49, 40, 38, 37, 36, 35, 34, 33, 32, 31, 30, 29, 28, 27, 26, 25, 15, 14, 13, 12, 11, 10, 9, 4, 2] : List Nat) → h3567.2.2.2.2 x k = defaultValue (gGG.2.1 12 k) := fun k hk => (fh3567 x k (fun q => absurd (((lp3467c0).symm.trans (congrArg ty3470 q.1)).trans lp3467c9) (by decide))).trans (lp3467w3 k hk)
      have pr3617 := gEl.set (i := i) (z := (8 * v) + u) lp3467u lp3467c9 (by decide) eh3567 (by omega) (by omega)
      have hrw3618 : gRn (i + 1).toNat ty3470 10 (fun i9 => eZz ((i9 : Nat) : Int)) h3567 := gRn.ext (z := (8 * v) + u) lp3467u lp3467c9 (by decide) fh3567 eh3567 (by omega) (by omega) (by omega) (by have e9 := gzE (i := i) (by omega) (by omega); (try dsimp only); rw [(by omega : (((i).toNat : Nat) : Int) = i), e9]; omega) lp3467k49
      refine gz_s 1 (pc' := 384) (L' := [some (.ref x), some (.int (zi u)), some (.int (zi v)), some (.int (zi i)), none]) (S' := [.ref x]) rfl ?_
      refine gz_get rfl (by decide) rfl nx (Nat.lt_of_lt_of_eq lp3467w0 sh3567.2.1.symm) ((congrFun sh3567.2.2.2.1 x).trans lp3467w1) s3604 ?_
      refine gz_s 2 (pc' := 389) (L' := [some (.ref x), some (.int (zi u)), some (.int (zi v)), some (.int (zi i)), none]) (S' := [.int (zi (-1)), .int (zi i), .ref c1849]) rfl ?_
      obtain ⟨f9, rf9, of9⟩ := pr3574
      have hl3619 : 64 ≤ h3567.2.2.2.1 c1849 ∧ h3567.2.2.2.1 c1849 ≤ 64 := gJ.rowl (G := gGG) sh3567.1 lp3467c30 rfl
      refine gs_ast rfl (by decide) sh3567 lp3467c30 rfl rfl rfl (by decide) (fun _ => rfl) (by omega) (by omega) (fun _ => (by decide : (31999 : Nat) ∈ ([8999, 10999, 31999] : List Nat))) (by omega) (by omega) (fun h3620 sh3620 eh3620 fh3620 => ?_)
      have pr3621 := gRn.pt fh3620 lp3467c30 (by decide) pr3568
      have pr3622 := gRn.pt fh3620 lp3467c30 (by decide) pr3569
      have pr3623 := gRn.pt fh3620 lp3467c30 (by decide) pr3570
      have pr3624 := gRn.pt fh3620 lp3467c30 (by decide) pr3571
      have pr3625 := gRn.pt fh3620 lp3467c30 (by decide) pr3572
      have pr3626 := gOy.pt fh3620 lp3467c30 (by decide) pr3573
      have pr3627 := gEl.pt fh3620 lp3467c30 (by decide) pr3617
      have pr3628 := gRn.pt fh3620 lp3467c30 (by decide) hrw3618
      have pr3629 := gRow.put (i := i) (z := (-1)) lp3467u lp3467c30 (by decide) fh3620 eh3620 (by omega) (by omega) rf9
      have s3630 := (fh3620 x 2 (fun q => absurd (((lp3467c0).symm.trans (congrArg ty3470 q.1)).trans lp3467c30) (by decide))).trans s3575
      have s3631 := (fh3620 x 4 (fun q => absurd (((lp3467c0).symm.trans (congrArg ty3470 q.1)).trans lp3467c30) (by decide))).trans s3576
      have s3632 := (fh3620 x 9 (fun q => absurd (((lp3467c0).symm.trans (congrArg ty3470 q.1)).trans lp3467c30) (by decide))).trans s3577
      have s3633 := (fh3620 x 10 (fun q => absurd (((lp3467c0).symm.trans (congrArg ty3470 q.1)).trans lp3467c30) (by decide))).trans s3578
      have s3634 := (fh3620 x 11 (fun q => absurd (((lp3467c0).symm.trans (congrArg ty3470 q.1)).trans lp3467c30) (by decide))).trans s3579
      have s3635 := (fh3620 x 12 (fun q => absurd (((lp3467c0).symm.trans (congrArg ty3470 q.1)).trans lp3467c30) (by decide))).trans s3580
      have s3636 := (fh3620 x 13 (fun q => absurd (((lp3467c0).symm.trans (congrArg ty3470 q.1)).trans lp3467c30) (by decide))).trans s3581
      have s3637 := (fh3620 x 14 (fun q => absurd (((lp3467c0).symm.trans (congrArg ty3470 q.1)).trans lp3467c30) (by decide))).trans s3582
      have s3638 := (fh3620 x 15 (fun q => absurd (((lp3467c0).symm.trans (congrArg ty3470 q.1)).trans lp3467c30) (by decide))).trans s3583
      have s3639 := (fh3620 x 25 (fun q => absurd (((lp3467c0).symm.trans (congrArg ty3470 q.1)).trans lp3467c30) (by decide))).trans s3584
      have s3640 := (fh3620 x 26 (fun q => absurd (((lp3467c0).symm.trans (congrArg ty3470 q.1)).trans lp3467c30) (by decide))).trans s3585
      have s3641 := (fh3620 x 27 (fun q => absurd (((lp3467c0).symm.trans (congrArg ty3470 q.1)).trans lp3467c30) (by decide))).trans s3586
      have s3642 := (fh3620 x 28 (fun q => absurd (((lp3467c0).symm.trans (congrArg ty3470 q.1)).trans lp3467c30) (by decide))).trans s3587
      have s3643 := (fh3620 x 29 (fun q => absurd (((lp3467c0).symm.trans (congrArg ty3470 q.1)).trans lp3467c30) (by decide))).trans s3588
      have s3644 := (fh3620 x 30 (fun q => absurd (((lp3467c0).symm.trans (congrArg ty3470 q.1)).trans lp3467c30) (by decide))).trans s3589
      have s3645 := (fh3620 x 31 (fun q => absurd (((lp3467c0).symm.trans (congrArg ty3470 q.1)).trans lp3467c30) (by decide))).trans s3590
      have s3646 := (fh3620 x 32 (fun q => absurd (((lp3467c0).symm.trans (congrArg ty3470 q.1)).trans lp3467c30) (by decide))).trans s3591
      have s3647 := (fh3620 x 33 (fun q => absurd (((lp3467c0).symm.trans (congrArg ty3470 q.1)).trans lp3467c30) (by decide))).trans s3592
      have s3648 := (fh3620 x 34 (fun q => absurd (((lp3467c0).symm.trans (congrArg ty3470 q.1)).trans lp3467c30) (by decide))).trans s3593
      have s3649 := (fh3620 x 35 (fun q => absurd (((lp3467c0).symm.trans (congrArg ty3470 q.1)).trans lp3467c30) (by decide))).trans s3594
      have s3650 := (fh3620 x 36 (fun q => absurd (((lp3467c0).symm.trans (congrArg ty3470 q.1)).trans lp3467c30) (by decide))).trans s3595
      have s3651 := (fh3620 x 37 (fun q => absurd (((lp3467c0).symm.trans (congrArg ty3470 q.1)).trans lp3467c30) (by decide))).trans s3596
      have s3652 := (fh3620 x 38 (fun q => absurd (((lp3467c0).symm.trans (congrArg ty3470 q.1)).trans lp3467c30) (by decide))).trans s3597
      have s3653 := (fh3620 x 40 (fun q => absurd (((lp3467c0).symm.trans (congrArg ty3470 q.1)).trans lp3467c30) (by decide))).trans s3598
      have s3654 := (fh3620 x 49 (fun q => absurd (((lp3467c0).symm.trans (congrArg ty3470 q.1)).trans lp3467c30) (by decide))).trans s3599
      have s3655 := (fh3620 x 54 (fun q => absurd (((lp3467c0).symm.trans (congrArg ty3470 q.1)).trans lp3467c30) (by decide))).trans s3600
      have s3656 := (fh3620 x 55 (fun q => absurd (((lp3467c0).symm.trans (congrArg ty3470 q.1)).trans lp3467c30) (by decide))).trans s3601
      have s3657 := (fh3620 x 56 (fun q => absurd (((lp3467c0).symm.trans (congrArg ty3470 q.1)).trans lp3467c30) (by decide))).trans s3602
      have s3658 := (fh3620 x 57 (fun q => absurd (((lp3467c0).symm.trans (congrArg ty3470 q.1)).trans lp3467c30) (by decide))).trans s3603
      have s3659 := (fh3620 x 58 (fun q => absurd (((lp3467c0).symm.trans (congrArg ty3470 q.1)).trans lp3467c30) (by decide))).trans s3604
      have s3660 := (fh3620 x 60 (fun q => absurd (((lp3467c0).symm.trans (congrArg ty3470 q.1)).trans lp3467c30) (by decide))).trans s3605
      have s3661 := (fh3620 x 63 (fun q => absurd (((lp3467c0).symm.trans (congrArg ty3470 q.1)).trans lp3467c30) (by decide))).trans s3606
      have s3662 := (fh3620 x 65 (fun q => absurd (((lp3467c0).symm.trans (congrArg ty3470 q.1)).trans lp3467c30) (by decide))).trans s3607
      have s3663 := (fh3620 x 66 (fun q => absurd (((lp3467c0).symm.trans (congrArg ty3470 q.1)).trans lp3467c30) (by decide))).trans s3608
      have s3664 := (fh3620 x 68 (fun q => absurd (((lp3467c0).symm.trans (congrArg ty3470 q.1)).trans lp3467c30) (by decide))).trans s3609
      have s3665 := (fh3620 x 69 (fun q => absurd (((lp3467c0).symm.trans (congrArg ty3470 q.1)).trans lp3467c30) (by decide))).trans s3610
      have s3666 := (fh3620 x 70 (fun q => absurd (((lp3467c0).symm.trans (congrArg ty3470 q.1)).trans lp3467c30) (by decide))).trans s3611
      have s3667 := (fh3620 x 71 (fun q => absurd (((lp3467c0).symm.trans (congrArg ty3470 q.1)).trans lp3467c30) (by decide))).trans s3612
      have s3668 := (fh3620 x 72 (fun q => absurd (((lp3467c0).symm.trans (congrArg ty3470 q.1)).trans lp3467c30) (by decide))).trans s3613
      have s3669 := (fh3620 x 73 (fun q => absurd (((lp3467c0).symm.trans (congrArg ty3470 q.1)).trans lp3467c30) (by decide))).trans s3614
      have s3670 := (fh3620 x 76 (fun q => absurd (((lp3467c0).symm.trans (congrArg ty3470 q.1)).trans lp3467c30) (by decide))).trans s3615
      have dd3671 : ∀ k, ¬ k ∈ ([76, 73, 72, 71, 70, 69, 68, 66, 65, 63, 60, 58, 57, 56, 55, 54, 49, 40, 38, 37, 36, 35, 34, 33, 32, 31, 30, 29, 28, 27, 26, 25, 15, 14, 13, 12, 11, 10, 9, 4, 2] : List Nat) → h3620.2.2.2.2 x k = defaultValue (gGG.2.1 12 k) := fun k hk => (fh3620 x k (fun q => absurd (((lp3467c0).symm.trans (congrArg ty3470 q.1)).trans lp3467c30) (by decide))).trans (dd3616 k hk)
      clear s3575 s3576 s3577 s3578 s3579 s3580 s3581 s3582 s3583 s3584 s3585 s3586 s3587 s3588 s3589 s3590 s3591 s3592 s3593 s3594 s3595 s3596 s3597 s3598 s3599 s3600 s3601 s3602 s3603 s3604 s3605 s3606 s3607 s3608 s3609 s3610 s3611 s3612 s3613 s3614 s3615 pr3568 pr3569 pr3570 pr3571 pr3572 pr3573 pr3617
      have pr3672 := gEl.set (i := i) (z := (-1)) lp3467u lp3467c30 (by decide) eh3620 (by omega) (by omega)
      have hoy3673 : gOy ty3470 31 (-1) (i + 1) h3620 := gOy.step (by omega) pr3629 of9
      refine gy_s 4 (pc' := 394) (L' := [some (.ref x), some (.int (zi u)), some (.int (zi v)), some (.int (zi i)), none]) (S' := [.int (zi 2), .int ((zi u) + (zi v))]) (L2 := [some (.ref x), some (.int (zi u)), some (.int (zi v)), some (.int (zi i)), none]) (S2 := [.int (zi 2), .int (zi (u + v))]) rfl (by simp only [zi_add, zi_sub, zi_mul, zi_neg, zi_and1, zi_and7, zi_and15, zi_and31, zi_and255]) (by simp only [zi_add, zi_sub, zi_mul, zi_neg, zi_and1, zi_and7, zi_and15, zi_and31, zi_and255]) ?_
      refine gy_rem rfl (by decide) (by omega) (by omega) ?_
      have jn3674 : ∀ (jn3674v0 : Int), ((0 ≤ jn3674v0) ∧ (jn3674v0 ≤ 1) ∧ (jn3674v0 = 1 ↔ (u + v) % 2 = 0)) → gz gPP gGG gcn (d + 1) gt130 403 [some (.ref x), some (.int (zi u)), some (.int (zi v)), some (.int (zi i)), none] [.int (zi jn3674v0)] h3620 (fun q _ => ∃ ty9 : Nat → Nat, gSg [1, 2, 3, 4, 5, 6, 7, 8, 9, 10, 11, 12, 13, 14, 15, 16, 17, 18, 19, 20, 21, 22, 23, 24, 25, 26, 27, 28, 29, 30, 31, 32, 33, 34, 35, 36, 37, 38, 39, 40, 41, 42, 200] [x] [8999, 10999, 31999] ty h ty9 q.2.2 ∧ ∃ ip n1 cw ch iv1 wr1 : Int, ty9 x = 1 ∧ gfin gt130 q.1 q.2.1 = some none ∧ q.2.2.2.2.2.2 x 16 = .int (zi ip) ∧ 0 ≤ ip ∧ ip ≤ 1 ∧ q.2.2.2.2.2.2 x 53 = .int (zi n1) ∧ 0 ≤ n1 ∧ n1 ≤ 10 ∧ q.2.2.2.2.2.2 x 50 = .int (zi cw) ∧ 0 ≤ cw ∧ cw ≤ 32 ∧ q.2.2.2.2.2.2 x 51 = .int (zi ch) ∧ 0 ≤ ch ∧ ch ≤ 32 ∧ q.2.2.2.2.2.2 x 52 = .int (zi iv1) ∧ 0 ≤ iv1 ∧ iv1 ≤ 100 ∧ q.2.2.2.2.2.2 x 59 = .int (zi wr1) ∧ 0 ≤ wr1 ∧ wr1 ≤ 60000 ∧ (ip = 0) ∧ (n1 = 0) ∧ (cw = 0) ∧ (ch = 0) ∧ (iv1 = 0) ∧ (wr1 = 0) ∧ ((q.2.2.1 : Int) = h.1 + 41) ∧ ((q.2.2.2.1 : Int) = h.2.1 + 88652) ∧ (gTs ty9 0 q.2.2) ∧ (gMw ty9 (((fun _ => 16, fun _ => 0, fun _ => 0, fun _ => 0, fun _ => 0, fun _ => 0, fun _ => -1), (0, 0, 0, fun _ => 0)) : gSS) q.2.2) ∧ (gRn 64 ty9 10 (fun i9 => eZz ((i9 : Nat) : Int)) q.2.2) ∧ gUq ty9) := by
        intro jn3674v0 jn3674d
        refine gz_s 2 (pc' := 407) (L' := [some (.ref x), some (.int (zi u)), some (.int (zi v)), some (.int (zi i)), some (.int (zi jn3674v0))]) (S' := [.int (zi jn3674v0)]) rfl ?_
        by_cases hc3675 : (jn3674v0 : Int) = 0
        · refine gy_ifT (pc' := 441) rfl (by decide) (by decide) (by omega) hc3675 ?_
          refine gz_s 2 (pc' := 444) (L' := [some (.ref x), some (.int (zi u)), some (.int (zi v)), some (.int (zi i)), some (.int (zi jn3674v0))]) (S' := [.int (zi 7), .int (zi v)]) rfl ?_
          by_cases hc3676 : ¬ (v : Int) = 7
          · refine gy_icT (pc' := 453) rfl (by decide) (by decide) (by omega) (by omega) hc3676 ?_
            refine gz_s 1 (pc' := 454) (L' := [some (.ref x), some (.int (zi u)), some (.int (zi v)), some (.int (zi i)), some (.int (zi jn3674v0))]) (S' := [.int (zi u)]) rfl ?_
            by_cases hc3677 : ¬ (u : Int) = 0
            · refine gy_ifT (pc' := 463) rfl (by decide) (by decide) (by omega) hc3677 ?_
              refine gy_s 4 (pc' := 365) (L' := [some (.ref x), some (.int ((zi u) + zi (-1))), some (.int ((zi v) + zi 1)), some (.int ((zi i) + zi 1)), some (.int (zi jn3674v0))]) (S' := []) (L2 := [some (.ref x), some (.int (zi (u + (-1)))), some (.int (zi (v + 1))), some (.int (zi (i + 1))), some (.int (zi jn3674v0))]) (S2 := []) rfl (by simp only [zi_add, zi_sub, zi_mul, zi_neg, zi_and1, zi_and7, zi_and15, zi_and31, zi_and255]) (by simp only [zi_add, zi_sub, zi_mul, zi_neg, zi_and1, zi_and7, zi_and15, zi_and31, zi_and255]) ?_
              have k3678 := sh3620.2.1
              have k3678b := sh3620.2.2.1
              have G3679 : gSg [1, 2, 3, 4, 5, 6, 7, 8, 9, 10, 11, 12, 13, 14, 15, 16, 17, 18, 19, 20, 21, 22, 23, 24, 25, 26, 27, 28, 29, 30, 31, 32, 33, 34, 35, 36, 37, 38, 39, 40, 41, 42, 200] [x] [8999, 10999, 31999] ty h ty3470 h3620 := gSg.ss lp3467G sh3620 (by decide)
              exact gz_wk (ihlp3467 ty3470 h3620 (u + (-1)) (v + 1) (i + 1) (by omega) G3679 lp3467u lp3467c0 lp3467c1 lp3467c2 lp3467c3 lp3467c4 lp3467c5 lp3467c6 lp3467c7 lp3467c8 lp3467c9 lp3467c10 lp3467c11 lp3467c12 lp3467c13 lp3467c14 lp3467c15 lp3467c16 lp3467c17 lp3467c18 lp3467c19 lp3467c20 lp3467c21 lp3467c22 lp3467c23 lp3467c24 lp3467c25 lp3467c26 lp3467c27 lp3467c28 lp3467c29 lp3467c30 lp3467c31 lp3467c32 lp3467c33 lp3467c34 lp3467c35 lp3467c36 lp3467c37 lp3467c38 lp3467c39 lp3467c40 lp3467c41 (by omega) (by omega) (by omega) (by omega) (by omega) (by omega) (by omega) s3630 s3631 s3632 s3633 s3634 s3635 s3636 s3637 s3638 s3639 s3640 s3641 s3642 s3643 s3644 s3645 s3646 s3647 s3648 s3649 s3650 s3651 s3652 s3653 s3654 s3655 s3656 s3657 s3658 s3659 s3660 s3661 s3662 s3663 s3664 s3665 s3666 s3667 s3668 s3669 s3670 lp3467k41 pr3621 pr3622 pr3623 pr3624 pr3625 pr3626 hoy3673 pr3628 (Nat.lt_of_lt_of_eq lp3467w0 sh3620.2.1.symm) ((congrFun sh3620.2.2.2.1 x).trans lp3467w1) ((congrFun sh3620.2.2.2.2.1 x).trans lp3467w2) dd3671) (gLw.s (gLw.s (gLw.s (gLw.s (gLw.n gLw.z)))))
            · refine gy_ifF rfl (by decide) (by decide) (by omega) hc3677 ?_
              refine gy_s 4 (pc' := 365) (L' := [some (.ref x), some (.int (zi u)), some (.int ((zi v) + zi 1)), some (.int ((zi i) + zi 1)), some (.int (zi jn3674v0))]) (S' := []) (L2 := [some (.ref x), some (.int (zi u)), some (.int (zi (v + 1))), some (.int (zi (i + 1))), some (.int (zi jn3674v0))]) (S2 := []) rfl (by simp only [zi_add, zi_sub, zi_mul, zi_neg, zi_and1, zi_and7, zi_and15, zi_and31, zi_and255]) (by simp only [zi_add, zi_sub, zi_mul, zi_neg, zi_and1, zi_and7, zi_and15, zi_and31, zi_and255]) ?_
              have k3680 := sh3620.2.1
              have k3680b := sh3620.2.2.1
              have G3681 : gSg [1, 2, 3, 4, 5, 6, 7, 8, 9, 10, 11, 12, 13, 14, 15, 16, 17, 18, 19, 20, 21, 22, 23, 24, 25, 26, 27, 28, 29, 30, 31, 32, 33, 34, 35, 36, 37, 38, 39, 40, 41, 42, 200] [x] [8999, 10999, 31999] ty h ty3470 h3620 := gSg.ss lp3467G sh3620 (by decide)
              exact gz_wk (ihlp3467 ty3470 h3620 u (v + 1) (i + 1) (by omega) G3681 lp3467u lp3467c0 lp3467c1 lp3467c2 lp3467c3 lp3467c4 lp3467c5 lp3467c6 lp3467c7 lp3467c8 lp3467c9 lp3467c10 lp3467c11 lp3467c12 lp3467c13 lp3467c14 lp3467c15 lp3467c16 lp3467c17 lp3467c18 lp3467c19 lp3467c20 lp3467c21 lp3467c22 lp3467c23 lp3467c24 lp3467c25 lp3467c26 lp3467c27 lp3467c28 lp3467c29 lp3467c30 lp3467c31 lp3467c32 lp3467c33 lp3467c34 lp3467c35 lp3467c36 lp3467c37 lp3467c38 lp3467c39 lp3467c40 lp3467c41 (by omega) (by omega) (by omega) (by omega) (by omega) (by omega) (by omega) s3630 s3631 s3632 s3633 s3634 s3635 s3636 s3637 s3638 s3639 s3640 s3641 s3642 s3643 s3644 s3645 s3646 s3647 s3648 s3649 s3650 s3651 s3652 s3653 s3654 s3655 s3656 s3657 s3658 s3659 s3660 s3661 s3662 s3663 s3664 s3665 s3666 s3667 s3668 s3669 s3670 lp3467k41 pr3621 pr3622 pr3623 pr3624 pr3625 pr3626 hoy3673 pr3628 (Nat.lt_of_lt_of_eq lp3467w0 sh3620.2.1.symm) ((congrFun sh3620.2.2.2.1 x).trans lp3467w1) ((congrFun sh3620.2.2.2.2.1 x).trans lp3467w2) dd3671) (gLw.s (gLw.s (gLw.s (gLw.s (gLw.n gLw.z)))))
          · refine gy_icF rfl (by decide) (by decide) (by omega) (by omega) hc3676 ?_
            refine gy_s 4 (pc' := 365) (L' := [some (.ref x), some (.int ((zi u) + zi 1)), some (.int (zi v)), some (.int ((zi i) + zi 1)), some (.int (zi jn3674v0))]) (S' := []) (L2 := [some (.ref x), some (.int (zi (u + 1))), some (.int (zi v)), some (.int (zi (i + 1))), some (.int (zi jn3674v0))]) (S2 := []) rfl (by simp only [zi_add, zi_sub, zi_mul, zi_neg, zi_and1, zi_and7, zi_and15, zi_and31, zi_and255]) (by simp only [zi_add, zi_sub, zi_mul, zi_neg, zi_and1, zi_and7, zi_and15, zi_and31, zi_and255]) ?_
            have k3682 := sh3620.2.1
            have k3682b := sh3620.2.2.1
            have G3683 : gSg [1, 2, 3, 4, 5, 6, 7, 8, 9, 10, 11, 12, 13, 14, 15, 16, 17, 18, 19, 20, 21, 22, 23, 24, 25, 26, 27, 28, 29, 30, 31, 32, 33, 34, 35, 36, 37, 38, 39, 40, 41, 42, 200] [x] [8999, 10999, 31999] ty h ty3470 h3620 := gSg.ss lp3467G sh3620 (by decide)
            exact gz_wk (ihlp3467 ty3470 h3620 (u + 1) v (i + 1) (by omega) G3683 lp3467u lp3467c0 lp3467c1 lp3467c2 lp3467c3 lp3467c4 lp3467c5 lp3467c6 lp3467c7 lp3467c8 lp3467c9 lp3467c10 lp3467c11 lp3467c12 lp3467c13 lp3467c14 lp3467c15 lp3467c16 lp3467c17 lp3467c18 lp3467c19 lp3467c20 lp3467c21 lp3467c22 lp3467c23 lp3467c24 lp3467c25 lp3467c26 lp3467c27 lp3467c28 lp3467c29 lp3467c30 lp3467c31 lp3467c32 lp3467c33 lp3467c34 lp3467c35 lp3467c36 lp3467c37 lp3467c38 lp3467c39 lp3467c40 lp3467c41 (by omega) (by omega) (by omega) (by omega) (by omega) (by omega) (by omega) s3630 s3631 s3632 s3633 s3634 s3635 s3636 s3637 s3638 s3639 s3640 s3641 s3642 s3643 s3644 s3645 s3646 s3647 s3648 s3649 s3650 s3651 s3652 s3653 s3654 s3655 s3656 s3657 s3658 s3659 s3660 s3661 s3662 s3663 s3664 s3665 s3666 s3667 s3668 s3669 s3670 lp3467k41 pr3621 pr3622 pr3623 pr3624 pr3625 pr3626 hoy3673 pr3628 (Nat.lt_of_lt_of_eq lp3467w0 sh3620.2.1.symm) ((congrFun sh3620.2.2.2.1 x).trans lp3467w1) ((congrFun sh3620.2.2.2.2.1 x).trans lp3467w2) dd3671) (gLw.s (gLw.s (gLw.s (gLw.s (gLw.n gLw.z)))))
        · refine gy_ifF rfl (by decide) (by decide) (by omega) hc3675 ?_
          refine gz_s 2 (pc' := 413) (L' := [some (.ref x), some (.int (zi u)), some (.int (zi v)), some (.int (zi i)), some (.int (zi jn3674v0))]) (S' := [.int (zi 7), .int (zi u)]) rfl ?_
          by_cases hc3684 : ¬ (u : Int) = 7
          · refine gy_icT (pc' := 422) rfl (by decide) (by decide) (by omega) (by omega) hc3684 ?_
            refine gz_s 1 (pc' := 423) (L' := [some (.ref x), some (.int (zi u)), some (.int (zi v)), some (.int (zi i)), some (.int (zi jn3674v0))]) (S' := [.int (zi v)]) rfl ?_
            by_cases hc3685 : ¬ (v : Int) = 0
            · refine gy_ifT (pc' := 432) rfl (by decide) (by decide) (by omega) hc3685 ?_
              refine gy_s 5 (pc' := 365) (L' := [some (.ref x), some (.int ((zi u) + zi 1)), some (.int ((zi v) + zi (-1))), some (.int ((zi i) + zi 1)), some (.int (zi jn3674v0))]) (S' := []) (L2 := [some (.ref x), some (.int (zi (u + 1))), some (.int (zi (v + (-1)))), some (.int (zi (i + 1))), some (.int (zi jn3674v0))]) (S2 := []) rfl (by simp only [zi_add, zi_sub, zi_mul, zi_neg, zi_and1, zi_and7, zi_and15, zi_and31, zi_and255]) (by simp only [zi_add, zi_sub, zi_mul, zi_neg, zi_and1, zi_and7, zi_and15, zi_and31, zi_and255]) ?_
              have k3686 := sh3620.2.1
              have k3686b := sh3620.2.2.1
              have G3687 : gSg [1, 2, 3, 4, 5, 6, 7, 8, 9, 10, 11, 12, 13, 14, 15, 16, 17, 18, 19, 20, 21, 22, 23, 24, 25, 26, 27, 28, 29, 30, 31, 32, 33, 34, 35, 36, 37, 38, 39, 40, 41, 42, 200] [x] [8999, 10999, 31999] ty h ty3470 h3620 := gSg.ss lp3467G sh3620 (by decide)
              exact gz_wk (ihlp3467 ty3470 h3620 (u + 1) (v + (-1)) (i + 1) (by omega) G3687 lp3467u lp3467c0 lp3467c1 lp3467c2 lp3467c3 lp3467c4 lp3467c5 lp3467c6 lp3467c7 lp3467c8 lp3467c9 lp3467c10 lp3467c11 lp3467c12 lp3467c13 lp3467c14 lp3467c15 lp3467c16 lp3467c17 lp3467c18 lp3467c19 lp3467c20 lp3467c21 lp3467c22 lp3467c23 lp3467c24 lp3467c25 lp3467c26 lp3467c27 lp3467c28 lp3467c29 lp3467c30 lp3467c31 lp3467c32 lp3467c33 lp3467c34 lp3467c35 lp3467c36 lp3467c37 lp3467c38 lp3467c39 lp3467c40 lp3467c41 (by omega) (by omega) (by omega) (by omega) (by omega) (by omega) (by omega) s3630 s3631 s3632 s3633 s3634 s3635 s3636 s3637 s3638 s3639 s3640 s3641 s3642 s3643 s3644 s3645 s3646 s3647 s3648 s3649 s3650 s3651 s3652 s3653 s3654 s3655 s3656 s3657 s3658 s3659 s3660 s3661 s3662 s3663 s3664 s3665 s3666 s3667 s3668 s3669 s3670 lp3467k41 pr3621 pr3622 pr3623 pr3624 pr3625 pr3626 hoy3673 pr3628 (Nat.lt_of_lt_of_eq lp3467w0 sh3620.2.1.symm) ((congrFun sh3620.2.2.2.1 x).trans lp3467w1) ((congrFun sh3620.2.2.2.2.1 x).trans lp3467w2) dd3671) (gLw.s (gLw.s (gLw.s (gLw.s (gLw.n gLw.z)))))
            · refine gy_ifF rfl (by decide) (by decide) (by omega) hc3685 ?_
              refine gy_s 4 (pc' := 365) (L' := [some (.ref x), some (.int ((zi u) + zi 1)), some (.int (zi v)), some (.int ((zi i) + zi 1)), some (.int (zi jn3674v0))]) (S' := []) (L2 := [some (.ref x), some (.int (zi (u + 1))), some (.int (zi v)), some (.int (zi (i + 1))), some (.int (zi jn3674v0))]) (S2 := []) rfl (by simp only [zi_add, zi_sub, zi_mul, zi_neg, zi_and1, zi_and7, zi_and15, zi_and31, zi_and255]) (by simp only [zi_add, zi_sub, zi_mul, zi_neg, zi_and1, zi_and7, zi_and15, zi_and31, zi_and255]) ?_
              have k3688 := sh3620.2.1
              have k3688b := sh3620.2.2.1
              have G3689 : gSg [1, 2, 3, 4, 5, 6, 7, 8, 9, 10, 11, 12, 13, 14, 15, 16, 17, 18, 19, 20, 21, 22, 23, 24, 25, 26, 27, 28, 29, 30, 31, 32, 33, 34, 35, 36, 37, 38, 39, 40, 41, 42, 200] [x] [8999, 10999, 31999] ty h ty3470 h3620 := gSg.ss lp3467G sh3620 (by decide)
              exact gz_wk (ihlp3467 ty3470 h3620 (u + 1) v (i + 1) (by omega) G3689 lp3467u lp3467c0 lp3467c1 lp3467c2 lp3467c3 lp3467c4 lp3467c5 lp3467c6 lp3467c7 lp3467c8 lp3467c9 lp3467c10 lp3467c11 lp3467c12 lp3467c13 lp3467c14 lp3467c15 lp3467c16 lp3467c17 lp3467c18 lp3467c19 lp3467c20 lp3467c21 lp3467c22 lp3467c23 lp3467c24 lp3467c25 lp3467c26 lp3467c27 lp3467c28 lp3467c29 lp3467c30 lp3467c31 lp3467c32 lp3467c33 lp3467c34 lp3467c35 lp3467c36 lp3467c37 lp3467c38 lp3467c39 lp3467c40 lp3467c41 (by omega) (by omega) (by omega) (by omega) (by omega) (by omega) (by omega) s3630 s3631 s3632 s3633 s3634 s3635 s3636 s3637 s3638 s3639 s3640 s3641 s3642 s3643 s3644 s3645 s3646 s3647 s3648 s3649 s3650 s3651 s3652 s3653 s3654 s3655 s3656 s3657 s3658 s3659 s3660 s3661 s3662 s3663 s3664 s3665 s3666 s3667 s3668 s3669 s3670 lp3467k41 pr3621 pr3622 pr3623 pr3624 pr3625 pr3626 hoy3673 pr3628 (Nat.lt_of_lt_of_eq lp3467w0 sh3620.2.1.symm) ((congrFun sh3620.2.2.2.1 x).trans lp3467w1) ((congrFun sh3620.2.2.2.2.1 x).trans lp3467w2) dd3671) (gLw.s (gLw.s (gLw.s (gLw.s (gLw.n gLw.z)))))
          · refine gy_icF rfl (by decide) (by decide) (by omega) (by omega) hc3684 ?_
            refine gy_s 4 (pc' := 365) (L' := [some (.ref x), some (.int (zi u)), some (.int ((zi v) + zi 1)), some (.int ((zi i) + zi 1)), some (.int (zi jn3674v0))]) (S' := []) (L2 := [some (.ref x), some (.int (zi u)), some (.int (zi (v + 1))), some (.int (zi (i + 1))), some (.int (zi jn3674v0))]) (S2 := []) rfl (by simp only [zi_add, zi_sub, zi_mul, zi_neg, zi_and1, zi_and7, zi_and15, zi_and31, zi_and255]) (by simp only [zi_add, zi_sub, zi_mul, zi_neg, zi_and1, zi_and7, zi_and15, zi_and31, zi_and255]) ?_
            have k3690 := sh3620.2.1
            have k3690b := sh3620.2.2.1
            have G3691 : gSg [1, 2, 3, 4, 5, 6, 7, 8, 9, 10, 11, 12, 13, 14, 15, 16, 17, 18, 19, 20, 21, 22, 23, 24, 25, 26, 27, 28, 29, 30, 31, 32, 33, 34, 35, 36, 37, 38, 39, 40, 41, 42, 200] [x] [8999, 10999, 31999] ty h ty3470 h3620 := gSg.ss lp3467G sh3620 (by decide)
            exact gz_wk (ihlp3467 ty3470 h3620 u (v + 1) (i + 1) (by omega) G3691 lp3467u lp3467c0 lp3467c1 lp3467c2 lp3467c3 lp3467c4 lp3467c5 lp3467c6 lp3467c7 lp3467c8 lp3467c9 lp3467c10 lp3467c11 lp3467c12 lp3467c13 lp3467c14 lp3467c15 lp3467c16 lp3467c17 lp3467c18 lp3467c19 lp3467c20 lp3467c21 lp3467c22 lp3467c23 lp3467c24 lp3467c25 lp3467c26 lp3467c27 lp3467c28 lp3467c29 lp3467c30 lp3467c31 lp3467c32 lp3467c33 lp3467c34 lp3467c35 lp3467c36 lp3467c37 lp3467c38 lp3467c39 lp3467c40 lp3467c41 (by omega) (by omega) (by omega) (by omega) (by omega) (by omega) (by omega) s3630 s3631 s3632 s3633 s3634 s3635 s3636 s3637 s3638 s3639 s3640 s3641 s3642 s3643 s3644 s3645 s3646 s3647 s3648 s3649 s3650 s3651 s3652 s3653 s3654 s3655 s3656 s3657 s3658 s3659 s3660 s3661 s3662 s3663 s3664 s3665 s3666 s3667 s3668 s3669 s3670 lp3467k41 pr3621 pr3622 pr3623 pr3624 pr3625 pr3626 hoy3673 pr3628 (Nat.lt_of_lt_of_eq lp3467w0 sh3620.2.1.symm) ((congrFun sh3620.2.2.2.1 x).trans lp3467w1) ((congrFun sh3620.2.2.2.2.1 x).trans lp3467w2) dd3671) (gLw.s (gLw.s (gLw.s (gLw.s (gLw.n gLw.z)))))
      by_cases hc3692 : ¬ ((u + v) % 2 : Int) = 0
      · refine gy_ifT (pc' := 402) rfl (by decide) (by decide) (by omega) hc3692 ?_
        refine gz_s 1 (pc' := 403) (L' := [some (.ref x), some (.int (zi u)), some (.int (zi v)), some (.int (zi i)), none]) (S' := [.int (zi 0)]) rfl ?_
        exact jn3674 0 (by omega)
      · refine gy_ifF rfl (by decide) (by decide) (by omega) hc3692 ?_
        refine gz_s 2 (pc' := 403) (L' := [some (.ref x), some (.int (zi u)), some (.int (zi v)), some (.int (zi i)), none]) (S' := [.int (zi 1)]) rfl ?_
        exact jn3674 1 (by omega)
set_option maxRecDepth 20000 in
set_option maxHeartbeats 4000000 in
theorem cmlp3461 (d : Nat) {ty : Nat → Nat} {h : gH} (hJ : gJ rT 1027 ty h) (x : Nat) (nx : 1027 ≤ x) (c3 c23 c46 c72 c101 c133 c171 c209 c250 c294 c341 c391 c447 c503 c562 c624 c689 c760 c831 c905 c982 c1065 c1148 c1234 c1323 c1420 c1519 c1623 c1735 c1849 c1966 c2089 c2212 c2338 c2470 c2602 c2737 c2878 c3019 c3163 c3313 : Nat) : ∀ (fu : Nat) (ty3464 : Nat → Nat) (h3463 : gH) (k : Int), (257 - k).toNat < fu → gSg [1, 2, 3, 4, 5, 6, 7, 8, 9, 10, 11, 12, 13, 14, 15, 16, 17, 18, 19, 20, 21, 22, 23, 24, 25, 26, 27, 28, 29, 30, 31, 32, 33, 34, 35, 36, 37, 38, 39, 40, 41, 42, 200] [x] [8999, 10999, 31999] ty h ty3464 h3463 → gUq ty3464 → ty3464 x = 200 → ty3464 c3 = 2 → ty3464 c23 = 3 → ty3464 c46 = 4 → ty3464 c72 = 5 → ty3464 c101 = 6 → ty3464 c133 = 7 → ty3464 c171 = 8 → ty3464 c209 = 9 → ty3464 c250 = 10 → ty3464 c294 = 11 → ty3464 c341 = 12 → ty3464 c391 = 13 → ty3464 c447 = 14 → ty3464 c503 = 15 → ty3464 c562 = 16 → ty3464 c624 = 17 → ty3464 c689 = 18 → ty3464 c760 = 19 → ty3464 c831 = 20 → ty3464 c905 = 21 → ty3464 c982 = 22 → ty3464 c1065 = 23 → ty3464 c1148 = 24 → ty3464 c1234 = 25 → ty3464 c1323 = 26 → ty3464 c1420 = 27 → ty3464 c1519 = 28 → ty3464 c1623 = 29 → ty3464 c1735 = 30 → ty3464 c1849 = 31 → ty3464 c1966 = 32 → ty3464 c2089 = 33 → ty3464 c2212 = 34 → ty3464 c2338 = 35 → ty3464 c2470 = 36 → ty3464 c2602 = 37 → ty3464 c2737 = 38 → ty3464 c2878 = 39 → ty3464 c3019 = 40 → ty3464 c3163 = 41 → ty3464 c3313 = 42 → (0 ≤ k ∧ k ≤ 256) → ((h3463.1 : Int) = h.1 + 41) → ((h3463.2.1 : Int) = h.2.1 + 88652) → h3463.2.2.2.2 x 2 = .ref c3 → h3463.2.2.2.2 x 4 = .ref c23 → h3463.2.2.2.2 x 9 = .ref c46 → h3463.2.2.2.2 x 10 = .ref c72 → h3463.2.2.2.2 x 11 = .ref c101 → h3463.2.2.2.2 x 12 = .ref c133 → h3463.2.2.2.2 x 13 = .ref c171 → h3463.2.2.2.2 x 14 = .ref c209 → h3463.2.2.2.2 x 15 = .ref c250 → h3463.2.2.2.2 x 25 = .ref c294 → h3463.2.2.2.2 x 26 = .ref c341 → h3463.2.2.2.2 x 27 = .ref c391 → h3463.2.2.2.2 x 28 = .ref c447 → h3463.2.2.2.2 x 29 = .ref c503 → h3463.2.2.2.2 x 30 = .ref c562 → h3463.2.2.2.2 x 31 = .ref c624 → h3463.2.2.2.2 x 32 = .ref c689 → h3463.2.2.2.2 x 33 = .ref c760 → h3463.2.2.2.2 x 34 = .ref c831 → h3463.2.2.2.2 x 35 = .ref c905 → h3463.2.2.2.2 x 36 = .ref c982 → h3463.2.2.2.2 x 37 = .ref c1065 → h3463.2.2.2.2 x 38 = .ref c1148 → h3463.2.2.2.2 x 40 = .ref c1234 → h3463.2.2.2.2 x 49 = .ref c1323 → h3463.2.2.2.2 x 54 = .ref c1420 → h3463.2.2.2.2 x 55 = .ref c1519 → h3463.2.2.2.2 x 56 = .ref c1623 → h3463.2.2.2.2 x 57 = .ref c1735 → h3463.2.2.2.2 x 58 = .ref c1849 → h3463.2.2.2.2 x 60 = .ref c1966 → h3463.2.2.2.2 x 63 = .ref c2089 → h3463.2.2.2.2 x 65 = .ref c2212 → h3463.2.2.2.2 x 66 = .ref c2338 → h3463.2.2.2.2 x 68 = .ref c2470 → h3463.2.2.2.2 x 69 = .ref c2602 → h3463.2.2.2.2 x 70 = .ref c2737 → h3463.2.2.2.2 x 71 = .ref c2878 → h3463.2.2.2.2 x 72 = .ref c3019 → h3463.2.2.2.2 x 73 = .ref c3163 → h3463.2.2.2.2 x 76 = .ref c3313 → gNo [1] ty3464 → gRn 1024 ty3464 26 (fun _ => 0) h3463 → gRn 10 ty3464 27 (fun _ => 0) h3463 → gRn 10 ty3464 28 (fun _ => 0) h3463 → gRn 10 ty3464 29 (fun _ => 0) h3463 → gRn 10 ty3464 30 (fun _ => 0) h3463 → gOy ty3464 8 16 k h3463 → x < h3463.1 → h3463.2.2.1 x = some (.inr 12) → h3463.2.2.2.1 x = 0 → (∀ k, ¬ k ∈ ([76, 73, 72, 71, 70, 69, 68, 66, 65, 63, 60, 58, 57, 56, 55, 54, 49, 40, 38, 37, 36, 35, 34, 33, 32, 31, 30, 29, 28, 27, 26, 25, 15, 14, 13, 12, 11, 10, 9, 4, 2] : List Nat) → h3463.2.2.2.2 x k = defaultValue (gGG.2.1 12 k)) → gz gPP gGG gcn (d + 1) gt130 338 [some (.ref x), some (.int (zi k)), none, none, none] [] h3463 (fun q _ => ∃ ty9 : Nat → Nat, gSg [1, 2, 3, 4, 5, 6, 7, 8, 9, 10, 11, 12, 13, 14, 15, 16, 17, 18, 19, 20, 21, 22, 23, 24, 25, 26, 27, 28, 29, 30, 31, 32, 33, 34, 35, 36, 37, 38, 39, 40, 41, 42, 200] [x] [8999, 10999, 31999] ty h ty9 q.2.2 ∧ ∃ ip n1 cw ch iv1 wr1 : Int, ty9 x = 1 ∧ gfin gt130 q.1 q.2.1 = some none ∧ q.2.2.2.2.2.2 x 16 = .int (zi ip) ∧ 0 ≤ ip ∧ ip ≤ 1 ∧ q.2.2.2.2.2.2 x 53 = .int (zi n1) ∧ 0 ≤ n1 ∧ n1 ≤ 10 ∧ q.2.2.2.2.2.2 x 50 = .int (zi cw) ∧ 0 ≤ cw ∧ cw ≤ 32 ∧ q.2.2.2.2.2.2 x 51 = .int (zi ch) ∧ 0 ≤ ch ∧ ch ≤ 32 ∧ q.2.2.2.2.2.2 x 52 = .int (zi iv1) ∧ 0 ≤ iv1 ∧ iv1 ≤ 100 ∧ q.2.2.2.2.2.2 x 59 = .int (zi wr1) ∧ 0 ≤ wr1 ∧ wr1 ≤ 60000 ∧ (ip = 0) ∧ (n1 = 0) ∧ (cw = 0) ∧ (ch = 0) ∧ (iv1 = 0) ∧ (wr1 = 0) ∧ ((q.2.2.1 : Int) = h.1 + 41) ∧ ((q.2.2.2.1 : Int) = h.2.1 + 88652) ∧ (gTs ty9 0 q.2.2) ∧ (gMw ty9 (((fun _ => 16, fun _ => 0, fun _ => 0, fun _ => 0, fun _ => 0, fun _ => 0, fun _ => -1), (0, 0, 0, fun _ => 0)) : gSS) q.2.2) ∧ (gRn 64 ty9 10 (fun i9 => eZz ((i9 : Nat) : Int)) q.2.2) ∧ gUq ty9) := by
  intro fu
  induction fu with
  | zero => intro ty3464 h3463 k hm; exact absurd hm (Nat.not_lt_zero _)
  | succ fu ihlp3461 =>
    intro ty3464 h3463 k lp3461m lp3461G lp3461u lp3461c0 lp3461c1 lp3461c2 lp3461c3 lp3461c4 lp3461c5 lp3461c6 lp3461c7 lp3461c8 lp3461c9 lp3461c10 lp3461c11 lp3461c12 lp3461c13 lp3461c14 lp3461c15 lp3461c16 lp3461c17 lp3461c18 lp3461c19 lp3461c20 lp3461c21 lp3461c22 lp3461c23 lp3461c24 lp3461c25 lp3461c26 lp3461c27 lp3461c28 lp3461c29 lp3461c30 lp3461c31 lp3461c32 lp3461c33 lp3461c34 lp3461c35 lp3461c36 lp3461c37 lp3461c38 lp3461c39 lp3461c40 lp3461c41 lp3461f0 lp3461f1 lp3461f2 lp3461k0 lp3461k1 lp3461k2 lp3461k3 lp3461k4 lp3461k5 lp3461k6 lp3461k7 lp3461k8 lp3461k9 lp3461k10 lp3461k11 lp3461k12 lp3461k13 lp3461k14 lp3461k15 lp3461k16 lp3461k17 lp3461k18 lp3461k19 lp3461k20 lp3461k21 lp3461k22 lp3461k23 lp3461k24 lp3461k25 lp3461k26 lp3461k27 lp3461k28 lp3461k29 lp3461k30 lp3461k31 lp3461k32 lp3461k33 lp3461k34 lp3461k35 lp3461k36 lp3461k37 lp3461k38 lp3461k39 lp3461k40 lp3461k41 lp3461k42 lp3461k43 lp3461k44 lp3461k45 lp3461k46 lp3461k47 lp3461w0 lp3461w1 lp3461w2 lp3461w3
    have sh3463 : gSs rT 1027 ty3464 [8999, 10999, 31999] h3463 h3463 := gSs.rf lp3461G.1
    refine gz_s 2 (pc' := 342) (L' := [some (.ref x), some (.int (zi k)), none, none, none]) (S' := [.int (zi 256), .int (zi k)]) rfl ?_
    by_cases hc3465 : (256 : Int) ≤ k
    · refine gy_icT (pc' := 359) rfl (by decide) (by decide) (by omega) (by omega) hc3465 ?_
      have hoy3466 : gOy ty3464 8 16 256 h3463 := by
        have e9 := lp3461k47
        rw [(by omega : k = 256)] at e9
        exact e9
      refine gz_s 6 (pc' := 365) (L' := [some (.ref x), some (.int (zi 0)), some (.int (zi 0)), some (.int (zi 0)), none]) (S' := []) rfl ?_
      have hoy3468 : gOy ty3464 31 (-1) 0 h3463 := ⟨_, gRow.mk lp3461u lp3461c30 (by decide) (fun _ => rfl), fun j hj => absurd hj (by omega)⟩
      have lp3467 := cmlp3467 d hJ x nx c3 c23 c46 c72 c101 c133 c171 c209 c250 c294 c341 c391 c447 c503 c562 c624 c689 c760 c831 c905 c982 c1065 c1148 c1234 c1323 c1420 c1519 c1623 c1735 c1849 c1966 c2089 c2212 c2338 c2470 c2602 c2737 c2878 c3019 c3163 c3313
      have hz0 : gzu (0 : Int).toNat = 0 := rfl
      have hz1 : gzv (0 : Int).toNat = 0 := rfl
      have G3693 : gSg [1, 2, 3, 4, 5, 6, 7, 8, 9, 10, 11, 12, 13, 14, 15, 16, 17, 18, 19, 20, 21, 22, 23, 24, 25, 26, 27, 28, 29, 30, 31, 32, 33, 34, 35, 36, 37, 38, 39, 40, 41, 42, 200] [x] [8999, 10999, 31999] ty h ty3464 h3463 := gSg.ss lp3461G sh3463 (by decide)
      exact gz_wk (lp3467 _ ty3464 h3463 0 0 0 (Nat.lt_succ_self _) G3693 lp3461u lp3461c0 lp3461c1 lp3461c2 lp3461c3 lp3461c4 lp3461c5 lp3461c6 lp3461c7 lp3461c8 lp3461c9 lp3461c10 lp3461c11 lp3461c12 lp3461c13 lp3461c14 lp3461c15 lp3461c16 lp3461c17 lp3461c18 lp3461c19 lp3461c20 lp3461c21 lp3461c22 lp3461c23 lp3461c24 lp3461c25 lp3461c26 lp3461c27 lp3461c28 lp3461c29 lp3461c30 lp3461c31 lp3461c32 lp3461c33 lp3461c34 lp3461c35 lp3461c36 lp3461c37 lp3461c38 lp3461c39 lp3461c40 lp3461c41 (by omega) (by omega) (by omega) (by omega) (by omega) (by omega) (by omega) lp3461k0 lp3461k1 lp3461k2 lp3461k3 lp3461k4 lp3461k5 lp3461k6 lp3461k7 lp3461k8 lp3461k9 lp3461k10 lp3461k11 lp3461k12 lp3461k13 lp3461k14 lp3461k15 lp3461k16 lp3461k17 lp3461k18 lp3461k19 lp3461k20 lp3461k21 lp3461k22 lp3461k23 lp3461k24 lp3461k25 lp3461k26 lp3461k27 lp3461k28 lp3461k29 lp3461k30 lp3461k31 lp3461k32 lp3461k33 lp3461k34 lp3461k35 lp3461k36 lp3461k37 lp3461k38 lp3461k39 lp3461k40 lp3461k41 lp3461k42 lp3461k43 lp3461k44 lp3461k45 lp3461k46 hoy3466 hoy3468 (gRn.nil (fun _ => rfl)) lp3461w0 lp3461w1 lp3461w2 lp3461w3) (gLw.s (gLw.s (gLw.s (gLw.s (gLw.n gLw.z)))))
    · refine gy_icF rfl (by decide) (by decide) (by omega) (by omega) hc3465 ?_
      refine gz_s 1 (pc' := 346) (L' := [some (.ref x), some (.int (zi k)), none, none, none]) (S' := [.ref x]) rfl ?_
      refine gz_get rfl (by decide) rfl nx lp3461w0 lp3461w1 lp3461k6 ?_
      refine gz_s 2 (pc' := 352) (L' := [some (.ref x), some (.int (zi k)), none, none, none]) (S' := [.int (zi 16), .int (zi k), .ref c171]) rfl ?_
      obtain ⟨f8, rf8, of8⟩ := lp3461k47
      have hl3694 : 256 ≤ h3463.2.2.2.1 c171 ∧ h3463.2.2.2.1 c171 ≤ 256 := gJ.rowl (G := gGG) sh3463.1 lp3461c7 rfl
      refine gs_ast rfl (by decide) sh3463 lp3461c7 rfl rfl rfl (by decide) (fun _ => rfl) (by omega) (by omega) (fun _ => (by decide : (8999 : Nat) ∈ ([8999, 10999, 31999] : List Nat))) (by omega) (by omega) (fun h3695 sh3695 eh3695 fh3695 => ?_)
      have pr3696 := gRn.pt fh3695 lp3461c7 (by decide) lp3461k42
      have pr3697 := gRn.pt fh3695 lp3461c7 (by decide) lp3461k43
      have pr3698 := gRn.pt fh3695 lp3461c7 (by decide) lp3461k44
      have pr3699 := gRn.pt fh3695 lp3461c7 (by decide) lp3461k45
      have pr3700 := gRn.pt fh3695 lp3461c7 (by decide) lp3461k46
      have pr3701 := gRow.put (i := k) (z := 16) lp3461u lp3461c7 (by decide) fh3695 eh3695 (by omega) (by omega) rf8
      have s3702 := (fh3695 x 2 (fun q => absurd (((lp3461c0).symm.trans (congrArg ty3464 q.1)).trans lp3461c7) (by decide))).trans lp3461k0
      have s3703 := (fh3695 x 4 (fun q => absurd (((lp3461c0).symm.trans (congrArg ty3464 q.1)).trans lp3461c7) (by decide))).trans lp3461k1
      have s3704 := (fh3695 x 9 (fun q => absurd (((lp3461c0).symm.trans (congrArg ty3464 q.1)).trans lp3461c7) (by decide))).trans lp3461k2
      have s3705 := (fh3695 x 10 (fun q => absurd (((lp3461c0).symm.trans (congrArg ty3464 q.1)).trans lp3461c7) (by decide))).trans lp3461k3
      have s3706 := (fh3695 x 11 (fun q => absurd (((lp3461c0).symm.trans (congrArg ty3464 q.1)).trans lp3461c7) (by decide))).trans lp3461k4
      have s3707 := (fh3695 x 12 (fun q => absurd (((lp3461c0).symm.trans (congrArg ty3464 q.1)).trans lp3461c7) (by decide))).trans lp3461k5
      have s3708 := (fh3695 x 13 (fun q => absurd (((lp3461c0).symm.trans (congrArg ty3464 q.1)).trans lp3461c7) (by decide))).trans lp3461k6
      have s3709 := (fh3695 x 14 (fun q => absurd (((lp3461c0).symm.trans (congrArg ty3464 q.1)).trans lp3461c7) (by decide))).trans lp3461k7
      have s3710 := (fh3695 x 15 (fun q => absurd (((lp3461c0).symm.trans (congrArg ty3464 q.1)).trans lp3461c7) (by decide))).trans lp3461k8
      have s3711 := (fh3695 x 25 (fun q => absurd (((lp3461c0).symm.trans (congrArg ty3464 q.1)).trans lp3461c7) (by decide))).trans lp3461k9
      have s3712 := (fh3695 x 26 (fun q => absurd (((lp3461c0).symm.trans (congrArg ty3464 q.1)).trans lp3461c7) (by decide))).trans lp3461k10
      have s3713 := (fh3695 x 27 (fun q => absurd (((lp3461c0).symm.trans (congrArg ty3464 q.1)).trans lp3461c7) (by decide))).trans lp3461k11
      have s3714 := (fh3695 x 28 (fun q => absurd (((lp3461c0).symm.trans (congrArg ty3464 q.1)).trans lp3461c7) (by decide))).trans lp3461k12
      have s3715 := (fh3695 x 29 (fun q => absurd (((lp3461c0).symm.trans (congrArg ty3464 q.1)).trans lp3461c7) (by decide))).trans lp3461k13
      have s3716 := (fh3695 x 30 (fun q => absurd (((lp3461c0).symm.trans (congrArg ty3464 q.1)).trans lp3461c7) (by decide))).trans lp3461k14
      have s3717 := (fh3695 x 31 (fun q => absurd (((lp3461c0).symm.trans (congrArg ty3464 q.1)).trans lp3461c7) (by decide))).trans lp3461k15
      have s3718 := (fh3695 x 32 (fun q => absurd (((lp3461c0).symm.trans (congrArg ty3464 q.1)).trans lp3461c7) (by decide))).trans lp3461k16
      have s3719 := (fh3695 x 33 (fun q => absurd (((lp3461c0).symm.trans (congrArg ty3464 q.1)).trans lp3461c7) (by decide))).trans lp3461k17
      have s3720 := (fh3695 x 34 (fun q => absurd (((lp3461c0).symm.trans (congrArg ty3464 q.1)).trans lp3461c7) (by decide))).trans lp3461k18
      have s3721 := (fh3695 x 35 (fun q => absurd (((lp3461c0).symm.trans (congrArg ty3464 q.1)).trans lp3461c7) (by decide))).trans lp3461k19
      have s3722 := (fh3695 x 36 (fun q => absurd (((lp3461c0).symm.trans (congrArg ty3464 q.1)).trans lp3461c7) (by decide))).trans lp3461k20
      have s3723 := (fh3695 x 37 (fun q => absurd (((lp3461c0).symm.trans (congrArg ty3464 q.1)).trans lp3461c7) (by decide))).trans lp3461k21
      have s3724 := (fh3695 x 38 (fun q => absurd (((lp3461c0).symm.trans (congrArg ty3464 q.1)).trans lp3461c7) (by decide))).trans lp3461k22
      have s3725 := (fh3695 x 40 (fun q => absurd (((lp3461c0).symm.trans (congrArg ty3464 q.1)).trans lp3461c7) (by decide))).trans lp3461k23
      have s3726 := (fh3695 x 49 (fun q => absurd (((lp3461c0).symm.trans (congrArg ty3464 q.1)).trans lp3461c7) (by decide))).trans lp3461k24
      have s3727 := (fh3695 x 54 (fun q => absurd (((lp3461c0).symm.trans (congrArg ty3464 q.1)).trans lp3461c7) (by decide))).trans lp3461k25
      have s3728 := (fh3695 x 55 (fun q => absurd (((lp3461c0).symm.trans (congrArg ty3464 q.1)).trans lp3461c7) (by decide))).trans lp3461k26
      have s3729 := (fh3695 x 56 (fun q => absurd (((lp3461c0).symm.trans (congrArg ty3464 q.1)).trans lp3461c7) (by decide))).trans lp3461k27
      have s3730 := (fh3695 x 57 (fun q => absurd (((lp3461c0).symm.trans (congrArg ty3464 q.1)).trans lp3461c7) (by decide))).trans lp3461k28
      have s3731 := (fh3695 x 58 (fun q => absurd (((lp3461c0).symm.trans (congrArg ty3464 q.1)).trans lp3461c7) (by decide))).trans lp3461k29
      have s3732 := (fh3695 x 60 (fun q => absurd (((lp3461c0).symm.trans (congrArg ty3464 q.1)).trans lp3461c7) (by decide))).trans lp3461k30
      have s3733 := (fh3695 x 63 (fun q => absurd (((lp3461c0).symm.trans (congrArg ty3464 q.1)).trans lp3461c7) (by decide))).trans lp3461k31
      have s3734 := (fh3695 x 65 (fun q => absurd (((lp3461c0).symm.trans (congrArg ty3464 q.1)).trans lp3461c7) (by decide))).trans lp3461k32
      have s3735 := (fh3695 x 66 (fun q => absurd (((lp3461c0).symm.trans (congrArg ty3464 q.1)).trans lp3461c7) (by decide))).trans lp3461k33
      have s3736 := (fh3695 x 68 (fun q => absurd (((lp3461c0).symm.trans (congrArg ty3464 q.1)).trans lp3461c7) (by decide))).trans lp3461k34
      have s3737 := (fh3695 x 69 (fun q => absurd (((lp3461c0).symm.trans (congrArg ty3464 q.1)).trans lp3461c7) (by decide))).trans lp3461k35
      have s3738 := (fh3695 x 70 (fun q => absurd (((lp3461c0).symm.trans (congrArg ty3464 q.1)).trans lp3461c7) (by decide))).trans lp3461k36
      have s3739 := (fh3695 x 71 (fun q => absurd (((lp3461c0).symm.trans (congrArg ty3464 q.1)).trans lp3461c7) (by decide))).trans lp3461k37
      have s3740 := (fh3695 x 72 (fun q => absurd (((lp3461c0).symm.trans (congrArg ty3464 q.1)).trans lp3461c7) (by decide))).trans lp3461k38
      have s3741 := (fh3695 x 73 (fun q => absurd (((lp3461c0).symm.trans (congrArg ty3464 q.1)).trans lp3461c7) (by decide))).trans lp3461k39
      have s3742 := (fh3695 x 76 (fun q => absurd (((lp3461c0).symm.trans (congrArg ty3464 q.1)).trans lp3461c7) (by decide))).trans lp3461k40
      have dd3743 : ∀ k, ¬ k ∈ ([76, 73, 72, 71, 70, 69, 68, 66, 65, 63, 60, 58, 57, 56, 55, 54, 49, 40, 38, 37, 36, 35, 34, 33, 32, 31, 30, 29, 28, 27, 26, 25, 15, 14, 13, 12, 11, 10, 9, 4, 2] : List Nat) → h3695.2.2.2.2 x k = defaultValue (gGG.2.1 12 k) := fun k hk => (fh3695 x k (fun q => absurd (((lp3461c0).symm.trans (congrArg ty3464 q.1)).trans lp3461c7) (by decide))).trans (lp3461w3 k hk)
      have pr3744 := gEl.set (i := k) (z := 16) lp3461u lp3461c7 (by decide) eh3695 (by omega) (by omega)
      have hoy3745 : gOy ty3464 8 16 (k + 1) h3695 := gOy.step (by omega) pr3701 of8
      refine gy_s 2 (pc' := 338) (L' := [some (.ref x), some (.int ((zi k) + zi 1)), none, none, none]) (S' := []) (L2 := [some (.ref x), some (.int (zi (k + 1))), none, none, none]) (S2 := []) rfl (by simp only [zi_add, zi_sub, zi_mul, zi_neg, zi_and1, zi_and7, zi_and15, zi_and31, zi_and255]) (by simp only [zi_add, zi_sub, zi_mul, zi_neg, zi_and1, zi_and7, zi_and15, zi_and31, zi_and255]) ?_
      have k3746 := sh3695.2.1
      have k3746b := sh3695.2.2.1
      have G3747 : gSg [1, 2, 3, 4, 5, 6, 7, 8, 9, 10, 11, 12, 13, 14, 15, 16, 17, 18, 19, 20, 21, 22, 23, 24, 25, 26, 27, 28, 29, 30, 31, 32, 33, 34, 35, 36, 37, 38, 39, 40, 41, 42, 200] [x] [8999, 10999, 31999] ty h ty3464 h3695 := gSg.ss lp3461G sh3695 (by decide)
      exact gz_wk (ihlp3461 ty3464 h3695 (k + 1) (by omega) G3747 lp3461u lp3461c0 lp3461c1 lp3461c2 lp3461c3 lp3461c4 lp3461c5 lp3461c6 lp3461c7 lp3461c8 lp3461c9 lp3461c10 lp3461c11 lp3461c12 lp3461c13 lp3461c14 lp3461c15 lp3461c16 lp3461c17 lp3461c18 lp3461c19 lp3461c20 lp3461c21 lp3461c22 lp3461c23 lp3461c24 lp3461c25 lp3461c26 lp3461c27 lp3461c28 lp3461c29 lp3461c30 lp3461c31 lp3461c32 lp3461c33 lp3461c34 lp3461c35 lp3461c36 lp3461c37 lp3461c38 lp3461c39 lp3461c40 lp3461c41 (by omega) (by omega) (by omega) s3702 s3703 s3704 s3705 s3706 s3707 s3708 s3709 s3710 s3711 s3712 s3713 s3714 s3715 s3716 s3717 s3718 s3719 s3720 s3721 s3722 s3723 s3724 s3725 s3726 s3727 s3728 s3729 s3730 s3731 s3732 s3733 s3734 s3735 s3736 s3737 s3738 s3739 s3740 s3741 s3742 lp3461k41 pr3696 pr3697 pr3698 pr3699 pr3700 hoy3745 (Nat.lt_of_lt_of_eq lp3461w0 sh3695.2.1.symm) ((congrFun sh3695.2.2.2.1 x).trans lp3461w1) ((congrFun sh3695.2.2.2.2.1 x).trans lp3461w2) dd3743) (gLw.s (gLw.s (gLw.n (gLw.n (gLw.n gLw.z)))))
set_option maxRecDepth 20000 in
set_option maxHeartbeats 4000000 in
theorem cmlp3308 (d : Nat) {ty : Nat → Nat} {h : gH} (hJ : gJ rT 1027 ty h) (x : Nat) (nx : 1027 ≤ x) (c3 c23 c46 c72 c101 c133 c171 c209 c250 c294 c341 c391 c447 c503 c562 c624 c689 c760 c831 c905 c982 c1065 c1148 c1234 c1323 c1420 c1519 c1623 c1735 c1849 c1966 c2089 c2212 c2338 c2470 c2602 c2737 c2878 c3019 c3163 : Nat) : ∀ (fu : Nat) (ty3310 : Nat → Nat) (h3309 : gH), ((1 : Int)).toNat < fu → gSg [1, 2, 3, 4, 5, 6, 7, 8, 9, 10, 11, 12, 13, 14, 15, 16, 17, 18, 19, 20, 21, 22, 23, 24, 25, 26, 27, 28, 29, 30, 31, 32, 33, 34, 35, 36, 37, 38, 39, 40, 41, 42, 200] [x] [8999, 10999, 31999] ty h ty3310 h3309 → gUq ty3310 → ty3310 x = 200 → ty3310 c3 = 2 → ty3310 c23 = 3 → ty3310 c46 = 4 → ty3310 c72 = 5 → ty3310 c101 = 6 → ty3310 c133 = 7 → ty3310 c171 = 8 → ty3310 c209 = 9 → ty3310 c250 = 10 → ty3310 c294 = 11 → ty3310 c341 = 12 → ty3310 c391 = 13 → ty3310 c447 = 14 → ty3310 c503 = 15 → ty3310 c562 = 16 → ty3310 c624 = 17 → ty3310 c689 = 18 → ty3310 c760 = 19 → ty3310 c831 = 20 → ty3310 c905 = 21 → ty3310 c982 = 22 → ty3310 c1065 = 23 → ty3310 c1148 = 24 → ty3310 c1234 = 25 → ty3310 c1323 = 26 → ty3310 c1420 = 27 → ty3310 c1519 = 28 → ty3310 c1623 = 29 → ty3310 c1735 = 30 → ty3310 c1849 = 31 → ty3310 c1966 = 32 → ty3310 c2089 = 33 → ty3310 c2212 = 34 → ty3310 c2338 = 35 → ty3310 c2470 = 36 → ty3310 c2602 = 37 → ty3310 c2737 = 38 → ty3310 c2878 = 39 → ty3310 c3019 = 40 → ty3310 c3163 = 41 → ((h3309.1 : Int) = h.1 + 40) → ((h3309.2.1 : Int) = h.2.1 + 88588) → h3309.2.2.2.2 x 2 = .ref c3 → h3309.2.2.2.2 x 4 = .ref c23 → h3309.2.2.2.2 x 9 = .ref c46 → h3309.2.2.2.2 x 10 = .ref c72 → h3309.2.2.2.2 x 11 = .ref c101 → h3309.2.2.2.2 x 12 = .ref c133 → h3309.2.2.2.2 x 13 = .ref c171 → h3309.2.2.2.2 x 14 = .ref c209 → h3309.2.2.2.2 x 15 = .ref c250 → h3309.2.2.2.2 x 25 = .ref c294 → h3309.2.2.2.2 x 26 = .ref c341 → h3309.2.2.2.2 x 27 = .ref c391 → h3309.2.2.2.2 x 28 = .ref c447 → h3309.2.2.2.2 x 29 = .ref c503 → h3309.2.2.2.2 x 30 = .ref c562 → h3309.2.2.2.2 x 31 = .ref c624 → h3309.2.2.2.2 x 32 = .ref c689 → h3309.2.2.2.2 x 33 = .ref c760 → h3309.2.2.2.2 x 34 = .ref c831 → h3309.2.2.2.2 x 35 = .ref c905 → h3309.2.2.2.2 x 36 = .ref c982 → h3309.2.2.2.2 x 37 = .ref c1065 → h3309.2.2.2.2 x 38 = .ref c1148 → h3309.2.2.2.2 x 40 = .ref c1234 → h3309.2.2.2.2 x 49 = .ref c1323 → h3309.2.2.2.2 x 54 = .ref c1420 → h3309.2.2.2.2 x 55 = .ref c1519 → h3309.2.2.2.2 x 56 = .ref c1623 → h3309.2.2.2.2 x 57 = .ref c1735 → h3309.2.2.2.2 x 58 = .ref c1849 → h3309.2.2.2.2 x 60 = .ref c1966 → h3309.2.2.2.2 x 63 = .ref c2089 → h3309.2.2.2.2 x 65 = .ref c2212 → h3309.2.2.2.2 x 66 = .ref c2338 → h3309.2.2.2.2 x 68 = .ref c2470 → h3309.2.2.2.2 x 69 = .ref c2602 → h3309.2.2.2.2 x 70 = .ref c2737 → h3309.2.2.2.2 x 71 = .ref c2878 → h3309.2.2.2.2 x 72 = .ref c3019 → h3309.2.2.2.2 x 73 = .ref c3163 → gNo [1, 42] ty3310 → gRn 1024 ty3310 26 (fun _ => 0) h3309 → gRn 10 ty3310 27 (fun _ => 0) h3309 → gRn 10 ty3310 28 (fun _ => 0) h3309 → gRn 10 ty3310 29 (fun _ => 0) h3309 → gRn 10 ty3310 30 (fun _ => 0) h3309 → x < h3309.1 → h3309.2.2.1 x = some (.inr 12) → h3309.2.2.2.1 x = 0 → (∀ k, ¬ k ∈ ([73, 72, 71, 70, 69, 68, 66, 65, 63, 60, 58, 57, 56, 55, 54, 49, 40, 38, 37, 36, 35, 34, 33, 32, 31, 30, 29, 28, 27, 26, 25, 15, 14, 13, 12, 11, 10, 9, 4, 2] : List Nat) → h3309.2.2.2.2 x k = defaultValue (gGG.2.1 12 k)) → gz gPP gGG gcn (d + 1) gt130 328 [some (.ref x), none, none, none, none] [] h3309 (fun q _ => ∃ ty9 : Nat → Nat, gSg [1, 2, 3, 4, 5, 6, 7, 8, 9, 10, 11, 12, 13, 14, 15, 16, 17, 18, 19, 20, 21, 22, 23, 24, 25, 26, 27, 28, 29, 30, 31, 32, 33, 34, 35, 36, 37, 38, 39, 40, 41, 42, 200] [x] [8999, 10999, 31999] ty h ty9 q.2.2 ∧ ∃ ip n1 cw ch iv1 wr1 : Int, ty9 x = 1 ∧ gfin gt130 q.1 q.2.1 = some none ∧ q.2.2.2.2.2.2 x 16 = .int (zi ip) ∧ 0 ≤ ip ∧ ip ≤ 1 ∧ q.2.2.2.2.2.2 x 53 = .int (zi n1) ∧ 0 ≤ n1 ∧ n1 ≤ 10 ∧ q.2.2.2.2.2.2 x 50 = .int (zi cw) ∧ 0 ≤ cw ∧ cw ≤ 32 ∧ q.2.2.2.2.2.2 x 51 = .int (zi ch) ∧ 0 ≤ ch ∧ ch ≤ 32 ∧ q.2.2.2.2.2.2 x 52 = .int (zi iv1) ∧ 0 ≤ iv1 ∧ iv1 ≤ 100 ∧ q.2.2.2.2.2.2 x 59 = .int (zi wr1) ∧ 0 ≤ wr1 ∧ wr1 ≤ 60000 ∧ (ip = 0) ∧ (n1 = 0) ∧ (cw = 0) ∧ (ch = 0) ∧ (iv1 = 0) ∧ (wr1 = 0) ∧ ((q.2.2.1 : Int) = h.1 + 41) ∧ ((q.2.2.2.1 : Int) = h.2.1 + 88652) ∧ (gTs ty9 0 q.2.2) ∧ (gMw ty9 (((fun _ => 16, fun _ => 0, fun _ => 0, fun _ => 0, fun _ => 0, fun _ => 0, fun _ => -1), (0, 0, 0, fun _ => 0)) : gSS) q.2.2) ∧ (gRn 64 ty9 10 (fun i9 => eZz ((i9 : Nat) : Int)) q.2.2) ∧ gUq ty9) := by
  intro fu
  induction fu with
  | zero => intro ty3310 h3309  hm; exact absurd hm (Nat.not_lt_zero _)
  | succ fu ihlp3308 =>
    intro ty3310 h3309  lp3308m lp3308G lp3308u lp3308c0 lp3308c1 lp3308c2 lp3308c3 lp3308c4 lp3308c5 lp3308c6 lp3308c7 lp3308c8 lp3308c9 lp3308c10 lp3308c11 lp3308c12 lp3308c13 lp3308c14 lp3308c15 lp3308c16 lp3308c17 lp3308c18 lp3308c19 lp3308c20 lp3308c21 lp3308c22 lp3308c23 lp3308c24 lp3308c25 lp3308c26 lp3308c27 lp3308c28 lp3308c29 lp3308c30 lp3308c31 lp3308c32 lp3308c33 lp3308c34 lp3308c35 lp3308c36 lp3308c37 lp3308c38 lp3308c39 lp3308c40 lp3308f0 lp3308f1 lp3308k0 lp3308k1 lp3308k2 lp3308k3 lp3308k4 lp3308k5 lp3308k6 lp3308k7 lp3308k8 lp3308k9 lp3308k10 lp3308k11 lp3308k12 lp3308k13 lp3308k14 lp3308k15 lp3308k16 lp3308k17 lp3308k18 lp3308k19 lp3308k20 lp3308k21 lp3308k22 lp3308k23 lp3308k24 lp3308k25 lp3308k26 lp3308k27 lp3308k28 lp3308k29 lp3308k30 lp3308k31 lp3308k32 lp3308k33 lp3308k34 lp3308k35 lp3308k36 lp3308k37 lp3308k38 lp3308k39 lp3308k40 lp3308k41 lp3308k42 lp3308k43 lp3308k44 lp3308k45 lp3308w0 lp3308w1 lp3308w2 lp3308w3
    have sh3309 : gSs rT 1027 ty3310 [8999, 10999, 31999] h3309 h3309 := gSs.rf lp3308G.1
    refine gz_s 2 (pc' := 331) (L' := [some (.ref x), none, none, none, none]) (S' := [.int (zi 64), .ref x]) rfl ?_
    refine gs_newr 42 rfl (by decide) rfl sh3309.1 (Nat.le_of_lt (Nat.lt_of_le_of_lt (gJ.cell sh3309.1 lp3308c1 rfl).1 (gJ.cell sh3309.1 lp3308c1 rfl).2.1)) (by omega) (by omega) rfl rfl (by show (64 : Int) ≤ _; omega) (by show _ ≤ (64 : Int); omega) (fun _ _ => gos_i (by decide) (by decide)) (fun ty3311 h3312 c3313 g3314 tc3313 lc3313 nc3313 mc3313 ec3313 dc3313 uc3313 => ?_)
    have gac3313 : h.1 ≤ c3313 := by have h8 := lp3308G.2.1; have h9 := sh3309.2.1; omega
    have uq3315 := uc3313 lp3308u (Or.inr (gNo.sub (by decide +kernel) lp3308k40))
    have G3316 : gSg [1, 2, 3, 4, 5, 6, 7, 8, 9, 10, 11, 12, 13, 14, 15, 16, 17, 18, 19, 20, 21, 22, 23, 24, 25, 26, 27, 28, 29, 30, 31, 32, 33, 34, 35, 36, 37, 38, 39, 40, 41, 42, 200] [x] [8999, 10999, 31999] ty h ty3311 h3312 := gSg.tr (gSg.ss lp3308G sh3309 (by decide)) g3314 (by decide) (by decide) (fun x hx => by cases hx)
    have rw3317 := gSg.raw g3314 lp3308w0 (fun w => by cases w)
    have rf3318 := (rw3317.2.2.1.trans lp3308w1)
    have rf3319 := (rw3317.2.2.2.trans lp3308w2)
    have dd3320 := gSg.rawd (ci := 12) (ps := [73, 72, 71, 70, 69, 68, 66, 65, 63, 60, 58, 57, 56, 55, 54, 49, 40, 38, 37, 36, 35, 34, 33, 32, 31, 30, 29, 28, 27, 26, 25, 15, 14, 13, 12, 11, 10, 9, 4, 2]) g3314 lp3308w0 (fun w => by cases w) lp3308c0 (by decide) lp3308w3
    have t3321 : ty3311 x = 200 := rw3317.1.trans lp3308c0
    have t3322 : ty3311 c3 = 2 := gSg.typ g3314 sh3309.1 lp3308c1 rTk_2
    have t3323 : ty3311 c23 = 3 := gSg.typ g3314 sh3309.1 lp3308c2 rTk_3
    have t3324 : ty3311 c46 = 4 := gSg.typ g3314 sh3309.1 lp3308c3 rTk_4
    have t3325 : ty3311 c72 = 5 := gSg.typ g3314 sh3309.1 lp3308c4 rTk_5
    have t3326 : ty3311 c101 = 6 := gSg.typ g3314 sh3309.1 lp3308c5 rTk_6
    have t3327 : ty3311 c133 = 7 := gSg.typ g3314 sh3309.1 lp3308c6 rTk_7
    have t3328 : ty3311 c171 = 8 := gSg.typ g3314 sh3309.1 lp3308c7 rTk_8
    have t3329 : ty3311 c209 = 9 := gSg.typ g3314 sh3309.1 lp3308c8 rTk_9
    have t3330 : ty3311 c250 = 10 := gSg.typ g3314 sh3309.1 lp3308c9 rTk_10
    have t3331 : ty3311 c294 = 11 := gSg.typ g3314 sh3309.1 lp3308c10 rTk_11
    have t3332 : ty3311 c341 = 12 := gSg.typ g3314 sh3309.1 lp3308c11 rTk_12
    have t3333 : ty3311 c391 = 13 := gSg.typ g3314 sh3309.1 lp3308c12 rTk_13
    have t3334 : ty3311 c447 = 14 := gSg.typ g3314 sh3309.1 lp3308c13 rTk_14
    have t3335 : ty3311 c503 = 15 := gSg.typ g3314 sh3309.1 lp3308c14 rTk_15
    have t3336 : ty3311 c562 = 16 := gSg.typ g3314 sh3309.1 lp3308c15 rTk_16
    have t3337 : ty3311 c624 = 17 := gSg.typ g3314 sh3309.1 lp3308c16 rTk_17
    have t3338 : ty3311 c689 = 18 := gSg.typ g3314 sh3309.1 lp3308c17 rTk_18
    have t3339 : ty3311 c760 = 19 := gSg.typ g3314 sh3309.1 lp3308c18 rTk_19
    have t3340 : ty3311 c831 = 20 := gSg.typ g3314 sh3309.1 lp3308c19 rTk_20
    have t3341 : ty3311 c905 = 21 := gSg.typ g3314 sh3309.1 lp3308c20 rTk_21
    have t3342 : ty3311 c982 = 22 := gSg.typ g3314 sh3309.1 lp3308c21 rTk_22
    have t3343 : ty3311 c1065 = 23 := gSg.typ g3314 sh3309.1 lp3308c22 rTk_23
    have t3344 : ty3311 c1148 = 24 := gSg.typ g3314 sh3309.1 lp3308c23 rTk_24
    have t3345 : ty3311 c1234 = 25 := gSg.typ g3314 sh3309.1 lp3308c24 rTk_25
    have t3346 : ty3311 c1323 = 26 := gSg.typ g3314 sh3309.1 lp3308c25 rTk_26
    have t3347 : ty3311 c1420 = 27 := gSg.typ g3314 sh3309.1 lp3308c26 rTk_27
    have t3348 : ty3311 c1519 = 28 := gSg.typ g3314 sh3309.1 lp3308c27 rTk_28
    have t3349 : ty3311 c1623 = 29 := gSg.typ g3314 sh3309.1 lp3308c28 rTk_29
    have t3350 : ty3311 c1735 = 30 := gSg.typ g3314 sh3309.1 lp3308c29 rTk_30
    have t3351 : ty3311 c1849 = 31 := gSg.typ g3314 sh3309.1 lp3308c30 rTk_31
    have t3352 : ty3311 c1966 = 32 := gSg.typ g3314 sh3309.1 lp3308c31 rTk_32
    have t3353 : ty3311 c2089 = 33 := gSg.typ g3314 sh3309.1 lp3308c32 rTk_33
    have t3354 : ty3311 c2212 = 34 := gSg.typ g3314 sh3309.1 lp3308c33 rTk_34
    have t3355 : ty3311 c2338 = 35 := gSg.typ g3314 sh3309.1 lp3308c34 rTk_35
    have t3356 : ty3311 c2470 = 36 := gSg.typ g3314 sh3309.1 lp3308c35 rTk_36
    have t3357 : ty3311 c2602 = 37 := gSg.typ g3314 sh3309.1 lp3308c36 rTk_37
    have t3358 : ty3311 c2737 = 38 := gSg.typ g3314 sh3309.1 lp3308c37 rTk_38
    have t3359 : ty3311 c2878 = 39 := gSg.typ g3314 sh3309.1 lp3308c38 rTk_39
    have t3360 : ty3311 c3019 = 40 := gSg.typ g3314 sh3309.1 lp3308c39 rTk_40
    have t3361 : ty3311 c3163 = 41 := gSg.typ g3314 sh3309.1 lp3308c40 rTk_41
    have s3362 := gSg.rawat g3314 lp3308w0 (fun w => by cases w) lp3308c0 (by decide) lp3308k0
    have s3363 := gSg.rawat g3314 lp3308w0 (fun w => by cases w) lp3308c0 (by decide) lp3308k1
    have s3364 := gSg.rawat g3314 lp3308w0 (fun w => by cases w) lp3308c0 (by decide) lp3308k2
    have s3365 := gSg.rawat g3314 lp3308w0 (fun w => by cases w) lp3308c0 (by decide) lp3308k3
    have s3366 := gSg.rawat g3314 lp3308w0 (fun w => by cases w) lp3308c0 (by decide) lp3308k4
    have s3367 := gSg.rawat g3314 lp3308w0 (fun w => by cases w) lp3308c0 (by decide) lp3308k5
    have s3368 := gSg.rawat g3314 lp3308w0 (fun w => by cases w) lp3308c0 (by decide) lp3308k6
    have s3369 := gSg.rawat g3314 lp3308w0 (fun w => by cases w) lp3308c0 (by decide) lp3308k7
    have s3370 := gSg.rawat g3314 lp3308w0 (fun w => by cases w) lp3308c0 (by decide) lp3308k8
    have s3371 := gSg.rawat g3314 lp3308w0 (fun w => by cases w) lp3308c0 (by decide) lp3308k9
    have s3372 := gSg.rawat g3314 lp3308w0 (fun w => by cases w) lp3308c0 (by decide) lp3308k10
    have s3373 := gSg.rawat g3314 lp3308w0 (fun w => by cases w) lp3308c0 (by decide) lp3308k11
    have s3374 := gSg.rawat g3314 lp3308w0 (fun w => by cases w) lp3308c0 (by decide) lp3308k12
    have s3375 := gSg.rawat g3314 lp3308w0 (fun w => by cases w) lp3308c0 (by decide) lp3308k13
    have s3376 := gSg.rawat g3314 lp3308w0 (fun w => by cases w) lp3308c0 (by decide) lp3308k14
    have s3377 := gSg.rawat g3314 lp3308w0 (fun w => by cases w) lp3308c0 (by decide) lp3308k15
    have s3378 := gSg.rawat g3314 lp3308w0 (fun w => by cases w) lp3308c0 (by decide) lp3308k16
    have s3379 := gSg.rawat g3314 lp3308w0 (fun w => by cases w) lp3308c0 (by decide) lp3308k17
    have s3380 := gSg.rawat g3314 lp3308w0 (fun w => by cases w) lp3308c0 (by decide) lp3308k18
    have s3381 := gSg.rawat g3314 lp3308w0 (fun w => by cases w) lp3308c0 (by decide) lp3308k19
    have s3382 := gSg.rawat g3314 lp3308w0 (fun w => by cases w) lp3308c0 (by decide) lp3308k20
    have s3383 := gSg.rawat g3314 lp3308w0 (fun w => by cases w) lp3308c0 (by decide) lp3308k21
    have s3384 := gSg.rawat g3314 lp3308w0 (fun w => by cases w) lp3308c0 (by decide) lp3308k22
    have s3385 := gSg.rawat g3314 lp3308w0 (fun w => by cases w) lp3308c0 (by decide) lp3308k23
    have s3386 := gSg.rawat g3314 lp3308w0 (fun w => by cases w) lp3308c0 (by decide) lp3308k24
    have s3387 := gSg.rawat g3314 lp3308w0 (fun w => by cases w) lp3308c0 (by decide) lp3308k25
    have s3388 := gSg.rawat g3314 lp3308w0 (fun w => by cases w) lp3308c0 (by decide) lp3308k26
    have s3389 := gSg.rawat g3314 lp3308w0 (fun w => by cases w) lp3308c0 (by decide) lp3308k27
    have s3390 := gSg.rawat g3314 lp3308w0 (fun w => by cases w) lp3308c0 (by decide) lp3308k28
    have s3391 := gSg.rawat g3314 lp3308w0 (fun w => by cases w) lp3308c0 (by decide) lp3308k29
    have s3392 := gSg.rawat g3314 lp3308w0 (fun w => by cases w) lp3308c0 (by decide) lp3308k30
    have s3393 := gSg.rawat g3314 lp3308w0 (fun w => by cases w) lp3308c0 (by decide) lp3308k31
    have s3394 := gSg.rawat g3314 lp3308w0 (fun w => by cases w) lp3308c0 (by decide) lp3308k32
    have s3395 := gSg.rawat g3314 lp3308w0 (fun w => by cases w) lp3308c0 (by decide) lp3308k33
    have s3396 := gSg.rawat g3314 lp3308w0 (fun w => by cases w) lp3308c0 (by decide) lp3308k34
    have s3397 := gSg.rawat g3314 lp3308w0 (fun w => by cases w) lp3308c0 (by decide) lp3308k35
    have s3398 := gSg.rawat g3314 lp3308w0 (fun w => by cases w) lp3308c0 (by decide) lp3308k36
    have s3399 := gSg.rawat g3314 lp3308w0 (fun w => by cases w) lp3308c0 (by decide) lp3308k37
    have s3400 := gSg.rawat g3314 lp3308w0 (fun w => by cases w) lp3308c0 (by decide) lp3308k38
    have s3401 := gSg.rawat g3314 lp3308w0 (fun w => by cases w) lp3308c0 (by decide) lp3308k39
    have pr3402 : gNo [1] ty3311 := gNo.gr g3314 (by decide +kernel) (gNo.sub (by decide +kernel) lp3308k40)
    have pr3403 := gRn.gr g3314 sh3309.1 rfl (by decide) (by decide) lp3308k41
    have pr3404 := gRn.gr g3314 sh3309.1 rfl (by decide) (by decide) lp3308k42
    have pr3405 := gRn.gr g3314 sh3309.1 rfl (by decide) (by decide) lp3308k43
    have pr3406 := gRn.gr g3314 sh3309.1 rfl (by decide) (by decide) lp3308k44
    have pr3407 := gRn.gr g3314 sh3309.1 rfl (by decide) (by decide) lp3308k45
    have sS3408 : gSs rT 1027 ty3311 [8999, 10999, 31999] h3312 h3312 := gSs.rf g3314.1
    refine gs_rput rfl (by decide) rfl sS3408.1 t3321 nx rw3317.2.1 rf3318 rfl (Or.inr rfl) (fun h3409 g3410 nh3409 mh3409 kh3409 zh3409 eh3409 fh3409 => ?_)
    have G3411 : gSg [1, 2, 3, 4, 5, 6, 7, 8, 9, 10, 11, 12, 13, 14, 15, 16, 17, 18, 19, 20, 21, 22, 23, 24, 25, 26, 27, 28, 29, 30, 31, 32, 33, 34, 35, 36, 37, 38, 39, 40, 41, 42, 200] [x] [8999, 10999, 31999] ty h ty3311 h3409 := gSg.tr (gSg.ss G3316 sS3408 (by decide)) g3410 (by decide) (by decide) (fun x hx => Or.inr hx)
    have pr3412 := gRn.gr g3410 sS3408.1 rfl (by decide) (by decide) pr3403
    have pr3413 := gRn.gr g3410 sS3408.1 rfl (by decide) (by decide) pr3404
    have pr3414 := gRn.gr g3410 sS3408.1 rfl (by decide) (by decide) pr3405
    have pr3415 := gRn.gr g3410 sS3408.1 rfl (by decide) (by decide) pr3406
    have pr3416 := gRn.gr g3410 sS3408.1 rfl (by decide) (by decide) pr3407
    have sS3417 : gSs rT 1027 ty3311 [8999, 10999, 31999] h3409 h3409 := gSs.rf g3410.1
    have rf3418 := Nat.lt_of_lt_of_eq rw3317.2.1 nh3409.symm
    have rf3419 := zh3409.trans rf3319
    have dd3420 : ∀ k, ¬ k ∈ ([76, 73, 72, 71, 70, 69, 68, 66, 65, 63, 60, 58, 57, 56, 55, 54, 49, 40, 38, 37, 36, 35, 34, 33, 32, 31, 30, 29, 28, 27, 26, 25, 15, 14, 13, 12, 11, 10, 9, 4, 2] : List Nat) → h3409.2.2.2.2 x k = defaultValue (gGG.2.1 12 k) := raw_dp fh3409 dd3320
    have s3421 := (fh3409 2 (by decide)).trans s3362
    have s3422 := (fh3409 4 (by decide)).trans s3363
    have s3423 := (fh3409 9 (by decide)).trans s3364
    have s3424 := (fh3409 10 (by decide)).trans s3365
    have s3425 := (fh3409 11 (by decide)).trans s3366
    have s3426 := (fh3409 12 (by decide)).trans s3367
    have s3427 := (fh3409 13 (by decide)).trans s3368
    have s3428 := (fh3409 14 (by decide)).trans s3369
    have s3429 := (fh3409 15 (by decide)).trans s3370
    have s3430 := (fh3409 25 (by decide)).trans s3371
    have s3431 := (fh3409 26 (by decide)).trans s3372
    have s3432 := (fh3409 27 (by decide)).trans s3373
    have s3433 := (fh3409 28 (by decide)).trans s3374
    have s3434 := (fh3409 29 (by decide)).trans s3375
    have s3435 := (fh3409 30 (by decide)).trans s3376
    have s3436 := (fh3409 31 (by decide)).trans s3377
    have s3437 := (fh3409 32 (by decide)).trans s3378
    have s3438 := (fh3409 33 (by decide)).trans s3379
    have s3439 := (fh3409 34 (by decide)).trans s3380
    have s3440 := (fh3409 35 (by decide)).trans s3381
    have s3441 := (fh3409 36 (by decide)).trans s3382
    have s3442 := (fh3409 37 (by decide)).trans s3383
    have s3443 := (fh3409 38 (by decide)).trans s3384
    have s3444 := (fh3409 40 (by decide)).trans s3385
    have s3445 := (fh3409 49 (by decide)).trans s3386
    have s3446 := (fh3409 54 (by decide)).trans s3387
    have s3447 := (fh3409 55 (by decide)).trans s3388
    have s3448 := (fh3409 56 (by decide)).trans s3389
    have s3449 := (fh3409 57 (by decide)).trans s3390
    have s3450 := (fh3409 58 (by decide)).trans s3391
    have s3451 := (fh3409 60 (by decide)).trans s3392
    have s3452 := (fh3409 63 (by decide)).trans s3393
    have s3453 := (fh3409 65 (by decide)).trans s3394
    have s3454 := (fh3409 66 (by decide)).trans s3395
    have s3455 := (fh3409 68 (by decide)).trans s3396
    have s3456 := (fh3409 69 (by decide)).trans s3397
    have s3457 := (fh3409 70 (by decide)).trans s3398
    have s3458 := (fh3409 71 (by decide)).trans s3399
    have s3459 := (fh3409 72 (by decide)).trans s3400
    have s3460 := (fh3409 73 (by decide)).trans s3401
    clear G3316 dd3320 pr3403 pr3404 pr3405 pr3406 pr3407 rf3318 rf3319 rw3317 s3362 s3363 s3364 s3365 s3366 s3367 s3368 s3369 s3370 s3371 s3372 s3373 s3374 s3375 s3376 s3377 s3378 s3379 s3380 s3381 s3382 s3383 s3384 s3385 s3386 s3387 s3388 s3389 s3390 s3391 s3392 s3393 s3394 s3395 s3396 s3397 s3398 s3399 s3400 s3401 sS3408
    refine gz_s 2 (pc' := 338) (L' := [some (.ref x), some (.int (zi 0)), none, none, none]) (S' := []) rfl ?_
    have hoy3462 : gOy ty3311 8 16 0 h3409 := ⟨_, gRow.mk uq3315 t3328 (by decide) (fun _ => rfl), fun j hj => absurd hj (by omega)⟩
    have lp3461 := cmlp3461 d hJ x nx c3 c23 c46 c72 c101 c133 c171 c209 c250 c294 c341 c391 c447 c503 c562 c624 c689 c760 c831 c905 c982 c1065 c1148 c1234 c1323 c1420 c1519 c1623 c1735 c1849 c1966 c2089 c2212 c2338 c2470 c2602 c2737 c2878 c3019 c3163 c3313
    have G3748 : gSg [1, 2, 3, 4, 5, 6, 7, 8, 9, 10, 11, 12, 13, 14, 15, 16, 17, 18, 19, 20, 21, 22, 23, 24, 25, 26, 27, 28, 29, 30, 31, 32, 33, 34, 35, 36, 37, 38, 39, 40, 41, 42, 200] [x] [8999, 10999, 31999] ty h ty3311 h3409 := gSg.ss G3411 sS3417 (by decide)
    exact gz_wk (lp3461 _ ty3311 h3409 0 (Nat.lt_succ_self _) G3748 uq3315 t3321 t3322 t3323 t3324 t3325 t3326 t3327 t3328 t3329 t3330 t3331 t3332 t3333 t3334 t3335 t3336 t3337 t3338 t3339 t3340 t3341 t3342 t3343 t3344 t3345 t3346 t3347 t3348 t3349 t3350 t3351 t3352 t3353 t3354 t3355 t3356 t3357 t3358 t3359 t3360 t3361 tc3313 (by omega) (by omega) (by omega) s3421 s3422 s3423 s3424 s3425 s3426 s3427 s3428 s3429 s3430 s3431 s3432 s3433 s3434 s3435 s3436 s3437 s3438 s3439 s3440 s3441 s3442 s3443 s3444 s3445 s3446 s3447 s3448 s3449 s3450 s3451 s3452 s3453 s3454 s3455 s3456 s3457 s3458 s3459 s3460 eh3409 pr3402 pr3412 pr3413 pr3414 pr3415 pr3416 hoy3462 rf3418 kh3409 rf3419 dd3420) (gLw.s (gLw.s (gLw.n (gLw.n (gLw.n gLw.z)))))
set_option maxRecDepth 20000 in
set_option maxHeartbeats 4000000 in
theorem cmlp2873 (d : Nat) {ty : Nat → Nat} {h : gH} (hJ : gJ rT 1027 ty h) (x : Nat) (nx : 1027 ≤ x) (c3 c23 c46 c72 c101 c133 c171 c209 c250 c294 c341 c391 c447 c503 c562 c624 c689 c760 c831 c905 c982 c1065 c1148 c1234 c1323 c1420 c1519 c1623 c1735 c1849 c1966 c2089 c2212 c2338 c2470 c2602 c2737 : Nat) : ∀ (fu : Nat) (ty2875 : Nat → Nat) (h2874 : gH), ((1 : Int)).toNat < fu → gSg [1, 2, 3, 4, 5, 6, 7, 8, 9, 10, 11, 12, 13, 14, 15, 16, 17, 18, 19, 20, 21, 22, 23, 24, 25, 26, 27, 28, 29, 30, 31, 32, 33, 34, 35, 36, 37, 38, 39, 40, 41, 42, 200] [x] [8999, 10999, 31999] ty h ty2875 h2874 → gUq ty2875 → ty2875 x = 200 → ty2875 c3 = 2 → ty2875 c23 = 3 → ty2875 c46 = 4 → ty2875 c72 = 5 → ty2875 c101 = 6 → ty2875 c133 = 7 → ty2875 c171 = 8 → ty2875 c209 = 9 → ty2875 c250 = 10 → ty2875 c294 = 11 → ty2875 c341 = 12 → ty2875 c391 = 13 → ty2875 c447 = 14 → ty2875 c503 = 15 → ty2875 c562 = 16 → ty2875 c624 = 17 → ty2875 c689 = 18 → ty2875 c760 = 19 → ty2875 c831 = 20 → ty2875 c905 = 21 → ty2875 c982 = 22 → ty2875 c1065 = 23 → ty2875 c1148 = 24 → ty2875 c1234 = 25 → ty2875 c1323 = 26 → ty2875 c1420 = 27 → ty2875 c1519 = 28 → ty2875 c1623 = 29 → ty2875 c1735 = 30 → ty2875 c1849 = 31 → ty2875 c1966 = 32 → ty2875 c2089 = 33 → ty2875 c2212 = 34 → ty2875 c2338 = 35 → ty2875 c2470 = 36 → ty2875 c2602 = 37 → ty2875 c2737 = 38 → ((h2874.1 : Int) = h.1 + 37) → ((h2874.2.1 : Int) = h.2.1 + 87046) → h2874.2.2.2.2 x 2 = .ref c3 → h2874.2.2.2.2 x 4 = .ref c23 → h2874.2.2.2.2 x 9 = .ref c46 → h2874.2.2.2.2 x 10 = .ref c72 → h2874.2.2.2.2 x 11 = .ref c101 → h2874.2.2.2.2 x 12 = .ref c133 → h2874.2.2.2.2 x 13 = .ref c171 → h2874.2.2.2.2 x 14 = .ref c209 → h2874.2.2.2.2 x 15 = .ref c250 → h2874.2.2.2.2 x 25 = .ref c294 → h2874.2.2.2.2 x 26 = .ref c341 → h2874.2.2.2.2 x 27 = .ref c391 → h2874.2.2.2.2 x 28 = .ref c447 → h2874.2.2.2.2 x 29 = .ref c503 → h2874.2.2.2.2 x 30 = .ref c562 → h2874.2.2.2.2 x 31 = .ref c624 → h2874.2.2.2.2 x 32 = .ref c689 → h2874.2.2.2.2 x 33 = .ref c760 → h2874.2.2.2.2 x 34 = .ref c831 → h2874.2.2.2.2 x 35 = .ref c905 → h2874.2.2.2.2 x 36 = .ref c982 → h2874.2.2.2.2 x 37 = .ref c1065 → h2874.2.2.2.2 x 38 = .ref c1148 → h2874.2.2.2.2 x 40 = .ref c1234 → h2874.2.2.2.2 x 49 = .ref c1323 → h2874.2.2.2.2 x 54 = .ref c1420 → h2874.2.2.2.2 x 55 = .ref c1519 → h2874.2.2.2.2 x 56 = .ref c1623 → h2874.2.2.2.2 x 57 = .ref c1735 → h2874.2.2.2.2 x 58 = .ref c1849 → h2874.2.2.2.2 x 60 = .ref c1966 → h2874.2.2.2.2 x 63 = .ref c2089 → h2874.2.2.2.2 x 65 = .ref c2212 → h2874.2.2.2.2 x 66 = .ref c2338 → h2874.2.2.2.2 x 68 = .ref c2470 → h2874.2.2.2.2 x 69 = .ref c2602 → h2874.2.2.2.2 x 70 = .ref c2737 → gNo [1, 39, 40, 41, 42] ty2875 → gRn 1024 ty2875 26 (fun _ => 0) h2874 → gRn 10 ty2875 27 (fun _ => 0) h2874 → gRn 10 ty2875 28 (fun _ => 0) h2874 → gRn 10 ty2875 29 (fun _ => 0) h2874 → gRn 10 ty2875 30 (fun _ => 0) h2874 → x < h2874.1 → h2874.2.2.1 x = some (.inr 12) → h2874.2.2.2.1 x = 0 → (∀ k, ¬ k ∈ ([70, 69, 68, 66, 65, 63, 60, 58, 57, 56, 55, 54, 49, 40, 38, 37, 36, 35, 34, 33, 32, 31, 30, 29, 28, 27, 26, 25, 15, 14, 13, 12, 11, 10, 9, 4, 2] : List Nat) → h2874.2.2.2.2 x k = defaultValue (gGG.2.1 12 k)) → gz gPP gGG gcn (d + 1) gt130 301 [some (.ref x), none, none, none, none] [] h2874 (fun q _ => ∃ ty9 : Nat → Nat, gSg [1, 2, 3, 4, 5, 6, 7, 8, 9, 10, 11, 12, 13, 14, 15, 16, 17, 18, 19, 20, 21, 22, 23, 24, 25, 26, 27, 28, 29, 30, 31, 32, 33, 34, 35, 36, 37, 38, 39, 40, 41, 42, 200] [x] [8999, 10999, 31999] ty h ty9 q.2.2 ∧ ∃ ip n1 cw ch iv1 wr1 : Int, ty9 x = 1 ∧ gfin gt130 q.1 q.2.1 = some none ∧ q.2.2.2.2.2.2 x 16 = .int (zi ip) ∧ 0 ≤ ip ∧ ip ≤ 1 ∧ q.2.2.2.2.2.2 x 53 = .int (zi n1) ∧ 0 ≤ n1 ∧ n1 ≤ 10 ∧ q.2.2.2.2.2.2 x 50 = .int (zi cw) ∧ 0 ≤ cw ∧ cw ≤ 32 ∧ q.2.2.2.2.2.2 x 51 = .int (zi ch) ∧ 0 ≤ ch ∧ ch ≤ 32 ∧ q.2.2.2.2.2.2 x 52 = .int (zi iv1) ∧ 0 ≤ iv1 ∧ iv1 ≤ 100 ∧ q.2.2.2.2.2.2 x 59 = .int (zi wr1) ∧ 0 ≤ wr1 ∧ wr1 ≤ 60000 ∧ (ip = 0) ∧ (n1 = 0) ∧ (cw = 0) ∧ (ch = 0) ∧ (iv1 = 0) ∧ (wr1 = 0) ∧ ((q.2.2.1 : Int) = h.1 + 41) ∧ ((q.2.2.2.1 : Int) = h.2.1 + 88652) ∧ (gTs ty9 0 q.2.2) ∧ (gMw ty9 (((fun _ => 16, fun _ => 0, fun _ => 0, fun _ => 0, fun _ => 0, fun _ => 0, fun _ => -1), (0, 0, 0, fun _ => 0)) : gSS) q.2.2) ∧ (gRn 64 ty9 10 (fun i9 => eZz ((i9 : Nat) : Int)) q.2.2) ∧ gUq ty9) := by
  intro fu
  induction fu with
  | zero => intro ty2875 h2874  hm; exact absurd hm (Nat.not_lt_zero _)
  | succ fu ihlp2873 =>
    intro ty2875 h2874  lp2873m lp2873G lp2873u lp2873c0 lp2873c1 lp2873c2 lp2873c3 lp2873c4 lp2873c5 lp2873c6 lp2873c7 lp2873c8 lp2873c9 lp2873c10 lp2873c11 lp2873c12 lp2873c13 lp2873c14 lp2873c15 lp2873c16 lp2873c17 lp2873c18 lp2873c19 lp2873c20 lp2873c21 lp2873c22 lp2873c23 lp2873c24 lp2873c25 lp2873c26 lp2873c27 lp2873c28 lp2873c29 lp2873c30 lp2873c31 lp2873c32 lp2873c33 lp2873c34 lp2873c35 lp2873c36 lp2873c37 lp2873f0 lp2873f1 lp2873k0 lp2873k1 lp2873k2 lp2873k3 lp2873k4 lp2873k5 lp2873k6 lp2873k7 lp2873k8 lp2873k9 lp2873k10 lp2873k11 lp2873k12 lp2873k13 lp2873k14 lp2873k15 lp2873k16 lp2873k17 lp2873k18 lp2873k19 lp2873k20 lp2873k21 lp2873k22 lp2873k23 lp2873k24 lp2873k25 lp2873k26 lp2873k27 lp2873k28 lp2873k29 lp2873k30 lp2873k31 lp2873k32 lp2873k33 lp2873k34 lp2873k35 lp2873k36 lp2873k37 lp2873k38 lp2873k39 lp2873k40 lp2873k41 lp2873k42 lp2873w0 lp2873w1 lp2873w2 lp2873w3
    have sh2874 : gSs rT 1027 ty2875 [8999, 10999, 31999] h2874 h2874 := gSs.rf lp2873G.1
    refine gz_s 2 (pc' := 305) (L' := [some (.ref x), none, none, none, none]) (S' := [.int (zi 514), .ref x]) rfl ?_
    refine gs_newr 39 rfl (by decide) rfl sh2874.1 (Nat.le_of_lt (Nat.lt_of_le_of_lt (gJ.cell sh2874.1 lp2873c1 rfl).1 (gJ.cell sh2874.1 lp2873c1 rfl).2.1)) (by omega) (by omega) rfl rfl (by show (514 : Int) ≤ _; omega) (by show _ ≤ (514 : Int); omega) (fun _ _ => gos_i (by decide) (by decide)) (fun ty2876 h2877 c2878 g2879 tc2878 lc2878 nc2878 mc2878 ec2878 dc2878 uc2878 => ?_)
    have gac2878 : h.1 ≤ c2878 := by have h8 := lp2873G.2.1; have h9 := sh2874.2.1; omega
    have uq2880 := uc2878 lp2873u (Or.inr (gNo.sub (by decide +kernel) lp2873k37))
    have G2881 : gSg [1, 2, 3, 4, 5, 6, 7, 8, 9, 10, 11, 12, 13, 14, 15, 16, 17, 18, 19, 20, 21, 22, 23, 24, 25, 26, 27, 28, 29, 30, 31, 32, 33, 34, 35, 36, 37, 38, 39, 40, 41, 42, 200] [x] [8999, 10999, 31999] ty h ty2876 h2877 := gSg.tr (gSg.ss lp2873G sh2874 (by decide)) g2879 (by decide) (by decide) (fun x hx => by cases hx)
    have rw2882 := gSg.raw g2879 lp2873w0 (fun w => by cases w)
    have rf2883 := (rw2882.2.2.1.trans lp2873w1)
    have rf2884 := (rw2882.2.2.2.trans lp2873w2)
    have dd2885 := gSg.rawd (ci := 12) (ps := [70, 69, 68, 66, 65, 63, 60, 58, 57, 56, 55, 54, 49, 40, 38, 37, 36, 35, 34, 33, 32, 31, 30, 29, 28, 27, 26, 25, 15, 14, 13, 12, 11, 10, 9, 4, 2]) g2879 lp2873w0 (fun w => by cases w) lp2873c0 (by decide) lp2873w3
    have t2886 : ty2876 x = 200 := rw2882.1.trans lp2873c0
    have t2887 : ty2876 c3 = 2 := gSg.typ g2879 sh2874.1 lp2873c1 rTk_2
    have t2888 : ty2876 c23 = 3 := gSg.typ g2879 sh2874.1 lp2873c2 rTk_3
    have t2889 : ty2876 c46 = 4 := gSg.typ g2879 sh2874.1 lp2873c3 rTk_4
    have t2890 : ty2876 c72 = 5 := gSg.typ g2879 sh2874.1 lp2873c4 rTk_5
    have t2891 : ty2876 c101 = 6 := gSg.typ g2879 sh2874.1 lp2873c5 rTk_6
    have t2892 : ty2876 c133 = 7 := gSg.typ g2879 sh2874.1 lp2873c6 rTk_7
    have t2893 : ty2876 c171 = 8 := gSg.typ g2879 sh2874.1 lp2873c7 rTk_8
    have t2894 : ty2876 c209 = 9 := gSg.typ g2879 sh2874.1 lp2873c8 rTk_9
    have t2895 : ty2876 c250 = 10 := gSg.typ g2879 sh2874.1 lp2873c9 rTk_10
    have t2896 : ty2876 c294 = 11 := gSg.typ g2879 sh2874.1 lp2873c10 rTk_11
    have t2897 : ty2876 c341 = 12 := gSg.typ g2879 sh2874.1 lp2873c11 rTk_12
    have t2898 : ty2876 c391 = 13 := gSg.typ g2879 sh2874.1 lp2873c12 rTk_13
    have t2899 : ty2876 c447 = 14 := gSg.typ g2879 sh2874.1 lp2873c13 rTk_14
    have t2900 : ty2876 c503 = 15 := gSg.typ g2879 sh2874.1 lp2873c14 rTk_15
    have t2901 : ty2876 c562 = 16 := gSg.typ g2879 sh2874.1 lp2873c15 rTk_16
    have t2902 : ty2876 c624 = 17 := gSg.typ g2879 sh2874.1 lp2873c16 rTk_17
    have t2903 : ty2876 c689 = 18 := gSg.typ g2879 sh2874.1 lp2873c17 rTk_18
    have t2904 : ty2876 c760 = 19 := gSg.typ g2879 sh2874.1 lp2873c18 rTk_19
    have t2905 : ty2876 c831 = 20 := gSg.typ g2879 sh2874.1 lp2873c19 rTk_20
    have t2906 : ty2876 c905 = 21 := gSg.typ g2879 sh2874.1 lp2873c20 rTk_21
    have t2907 : ty2876 c982 = 22 := gSg.typ g2879 sh2874.1 lp2873c21 rTk_22
    have t2908 : ty2876 c1065 = 23 := gSg.typ g2879 sh2874.1 lp2873c22 rTk_23
    have t2909 : ty2876 c1148 = 24 := gSg.typ g2879 sh2874.1 lp2873c23 rTk_24
    have t2910 : ty2876 c1234 = 25 := gSg.typ g2879 sh2874.1 lp2873c24 rTk_25
    have t2911 : ty2876 c1323 = 26 := gSg.typ g2879 sh2874.1 lp2873c25 rTk_26
    have t2912 : ty2876 c1420 = 27 := gSg.typ g2879 sh2874.1 lp2873c26 rTk_27
    have t2913 : ty2876 c1519 = 28 := gSg.typ g2879 sh2874.1 lp2873c27 rTk_28
    have t2914 : ty2876 c1623 = 29 := gSg.typ g2879 sh2874.1 lp2873c28 rTk_29
    have t2915 : ty2876 c1735 = 30 := gSg.typ g2879 sh2874.1 lp2873c29 rTk_30
    have t2916 : ty2876 c1849 = 31 := gSg.typ g2879 sh2874.1 lp2873c30 rTk_31
    have t2917 : ty2876 c1966 = 32 := gSg.typ g2879 sh2874.1 lp2873c31 rTk_32
    have t2918 : ty2876 c2089 = 33 := gSg.typ g2879 sh2874.1 lp2873c32 rTk_33
    have t2919 : ty2876 c2212 = 34 := gSg.typ g2879 sh2874.1 lp2873c33 rTk_34
    have t2920 : ty2876 c2338 = 35 := gSg.typ g2879 sh2874.1 lp2873c34 rTk_35
    have t2921 : ty2876 c2470 = 36 := gSg.typ g2879 sh2874.1 lp2873c35 rTk_36
    have t2922 : ty2876 c2602 = 37 := gSg.typ g2879 sh2874.1 lp2873c36 rTk_37
    have t2923 : ty2876 c2737 = 38 := gSg.typ g2879 sh2874.1 lp2873c37 rTk_38
    have s2924 := gSg.rawat g2879 lp2873w0 (fun w => by cases w) lp2873c0 (by decide) lp2873k0
    have s2925 := gSg.rawat g2879 lp2873w0 (fun w => by cases w) lp2873c0 (by decide) lp2873k1
    have s2926 := gSg.rawat g2879 lp2873w0 (fun w => by cases w) lp2873c0 (by decide) lp2873k2
    have s2927 := gSg.rawat g2879 lp2873w0 (fun w => by cases w) lp2873c0 (by decide) lp2873k3
    have s2928 := gSg.rawat g2879 lp2873w0 (fun w => by cases w) lp2873c0 (by decide) lp2873k4
    have s2929 := gSg.rawat g2879 lp2873w0 (fun w => by cases w) lp2873c0 (by decide) lp2873k5
    have s2930 := gSg.rawat g2879 lp2873w0 (fun w => by cases w) lp2873c0 (by decide) lp2873k6
    have s2931 := gSg.rawat g2879 lp2873w0 (fun w => by cases w) lp2873c0 (by decide) lp2873k7
    have s2932 := gSg.rawat g2879 lp2873w0 (fun w => by cases w) lp2873c0 (by decide) lp2873k8
    have s2933 := gSg.rawat g2879 lp2873w0 (fun w => by cases w) lp2873c0 (by decide) lp2873k9
    have s2934 := gSg.rawat g2879 lp2873w0 (fun w => by cases w) lp2873c0 (by decide) lp2873k10
    have s2935 := gSg.rawat g2879 lp2873w0 (fun w => by cases w) lp2873c0 (by decide) lp2873k11
    have s2936 := gSg.rawat g2879 lp2873w0 (fun w => by cases w) lp2873c0 (by decide) lp2873k12
    have s2937 := gSg.rawat g2879 lp2873w0 (fun w => by cases w) lp2873c0 (by decide) lp2873k13
    have s2938 := gSg.rawat g2879 lp2873w0 (fun w => by cases w) lp2873c0 (by decide) lp2873k14
    have s2939 := gSg.rawat g2879 lp2873w0 (fun w => by cases w) lp2873c0 (by decide) lp2873k15
    have s2940 := gSg.rawat g2879 lp2873w0 (fun w => by cases w) lp2873c0 (by decide) lp2873k16
    have s2941 := gSg.rawat g2879 lp2873w0 (fun w => by cases w) lp2873c0 (by decide) lp2873k17
    have s2942 := gSg.rawat g2879 lp2873w0 (fun w => by cases w) lp2873c0 (by decide) lp2873k18
    have s2943 := gSg.rawat g2879 lp2873w0 (fun w => by cases w) lp2873c0 (by decide) lp2873k19
    have s2944 := gSg.rawat g2879 lp2873w0 (fun w => by cases w) lp2873c0 (by decide) lp2873k20
    have s2945 := gSg.rawat g2879 lp2873w0 (fun w => by cases w) lp2873c0 (by decide) lp2873k21
    have s2946 := gSg.rawat g2879 lp2873w0 (fun w => by cases w) lp2873c0 (by decide) lp2873k22
    have s2947 := gSg.rawat g2879 lp2873w0 (fun w => by cases w) lp2873c0 (by decide) lp2873k23
    have s2948 := gSg.rawat g2879 lp2873w0 (fun w => by cases w) lp2873c0 (by decide) lp2873k24
    have s2949 := gSg.rawat g2879 lp2873w0 (fun w => by cases w) lp2873c0 (by decide) lp2873k25
    have s2950 := gSg.rawat g2879 lp2873w0 (fun w => by cases w) lp2873c0 (by decide) lp2873k26
    have s2951 := gSg.rawat g2879 lp2873w0 (fun w => by cases w) lp2873c0 (by decide) lp2873k27
    have s2952 := gSg.rawat g2879 lp2873w0 (fun w => by cases w) lp2873c0 (by decide) lp2873k28
    have s2953 := gSg.rawat g2879 lp2873w0 (fun w => by cases w) lp2873c0 (by decide) lp2873k29
    have s2954 := gSg.rawat g2879 lp2873w0 (fun w => by cases w) lp2873c0 (by decide) lp2873k30
    have s2955 := gSg.rawat g2879 lp2873w0 (fun w => by cases w) lp2873c0 (by decide) lp2873k31
    have s2956 := gSg.rawat g2879 lp2873w0 (fun w => by cases w) lp2873c0 (by decide) lp2873k32
    have s2957 := gSg.rawat g2879 lp2873w0 (fun w => by cases w) lp2873c0 (by decide) lp2873k33
    have s2958 := gSg.rawat g2879 lp2873w0 (fun w => by cases w) lp2873c0 (by decide) lp2873k34
    have s2959 := gSg.rawat g2879 lp2873w0 (fun w => by cases w) lp2873c0 (by decide) lp2873k35
    have s2960 := gSg.rawat g2879 lp2873w0 (fun w => by cases w) lp2873c0 (by decide) lp2873k36
    have pr2961 : gNo [1, 40, 41, 42] ty2876 := gNo.gr g2879 (by decide +kernel) (gNo.sub (by decide +kernel) lp2873k37)
    have pr2962 := gRn.gr g2879 sh2874.1 rfl (by decide) (by decide) lp2873k38
    have pr2963 := gRn.gr g2879 sh2874.1 rfl (by decide) (by decide) lp2873k39
    have pr2964 := gRn.gr g2879 sh2874.1 rfl (by decide) (by decide) lp2873k40
    have pr2965 := gRn.gr g2879 sh2874.1 rfl (by decide) (by decide) lp2873k41
    have pr2966 := gRn.gr g2879 sh2874.1 rfl (by decide) (by decide) lp2873k42
    have sS2967 : gSs rT 1027 ty2876 [8999, 10999, 31999] h2877 h2877 := gSs.rf g2879.1
    refine gs_rput rfl (by decide) rfl sS2967.1 t2886 nx rw2882.2.1 rf2883 rfl (Or.inr rfl) (fun h2968 g2969 nh2968 mh2968 kh2968 zh2968 eh2968 fh2968 => ?_)
    have G2970 : gSg [1, 2, 3, 4, 5, 6, 7, 8, 9, 10, 11, 12, 13, 14, 15, 16, 17, 18, 19, 20, 21, 22, 23, 24, 25, 26, 27, 28, 29, 30, 31, 32, 33, 34, 35, 36, 37, 38, 39, 40, 41, 42, 200] [x] [8999, 10999, 31999] ty h ty2876 h2968 := gSg.tr (gSg.ss G2881 sS2967 (by decide)) g2969 (by decide) (by decide) (fun x hx => Or.inr hx)
    have pr2971 := gRn.gr g2969 sS2967.1 rfl (by decide) (by decide) pr2962
    have pr2972 := gRn.gr g2969 sS2967.1 rfl (by decide) (by decide) pr2963
    have pr2973 := gRn.gr g2969 sS2967.1 rfl (by decide) (by decide) pr2964
    have pr2974 := gRn.gr g2969 sS2967.1 rfl (by decide) (by decide) pr2965
    have pr2975 := gRn.gr g2969 sS2967.1 rfl (by decide) (by decide) pr2966
    have sS2976 : gSs rT 1027 ty2876 [8999, 10999, 31999] h2968 h2968 := gSs.rf g2969.1
    have rf2977 := Nat.lt_of_lt_of_eq rw2882.2.1 nh2968.symm
    have rf2978 := zh2968.trans rf2884
    have dd2979 : ∀ k, ¬ k ∈ ([71, 70, 69, 68, 66, 65, 63, 60, 58, 57, 56, 55, 54, 49, 40, 38, 37, 36, 35, 34, 33, 32, 31, 30, 29, 28, 27, 26, 25, 15, 14, 13, 12, 11, 10, 9, 4, 2] : List Nat) → h2968.2.2.2.2 x k = defaultValue (gGG.2.1 12 k) := raw_dp fh2968 dd2885
    have s2980 := (fh2968 2 (by decide)).trans s2924
    have s2981 := (fh2968 4 (by decide)).trans s2925
    have s2982 := (fh2968 9 (by decide)).trans s2926
    have s2983 := (fh2968 10 (by decide)).trans s2927
    have s2984 := (fh2968 11 (by decide)).trans s2928
    have s2985 := (fh2968 12 (by decide)).trans s2929
    have s2986 := (fh2968 13 (by decide)).trans s2930
    have s2987 := (fh2968 14 (by decide)).trans s2931
    have s2988 := (fh2968 15 (by decide)).trans s2932
    have s2989 := (fh2968 25 (by decide)).trans s2933
    have s2990 := (fh2968 26 (by decide)).trans s2934
    have s2991 := (fh2968 27 (by decide)).trans s2935
    have s2992 := (fh2968 28 (by decide)).trans s2936
    have s2993 := (fh2968 29 (by decide)).trans s2937
    have s2994 := (fh2968 30 (by decide)).trans s2938
    have s2995 := (fh2968 31 (by decide)).trans s2939
    have s2996 := (fh2968 32 (by decide)).trans s2940
    have s2997 := (fh2968 33 (by decide)).trans s2941
    have s2998 := (fh2968 34 (by decide)).trans s2942
    have s2999 := (fh2968 35 (by decide)).trans s2943
    have s3000 := (fh2968 36 (by decide)).trans s2944
    have s3001 := (fh2968 37 (by decide)).trans s2945
    have s3002 := (fh2968 38 (by decide)).trans s2946
    have s3003 := (fh2968 40 (by decide)).trans s2947
    have s3004 := (fh2968 49 (by decide)).trans s2948
    have s3005 := (fh2968 54 (by decide)).trans s2949
    have s3006 := (fh2968 55 (by decide)).trans s2950
    have s3007 := (fh2968 56 (by decide)).trans s2951
    have s3008 := (fh2968 57 (by decide)).trans s2952
    have s3009 := (fh2968 58 (by decide)).trans s2953
    have s3010 := (fh2968 60 (by decide)).trans s2954
    have s3011 := (fh2968 63 (by decide)).trans s2955
    have s3012 := (fh2968 65 (by decide)).trans s2956
    have s3013 := (fh2968 66 (by decide)).trans s2957
    have s3014 := (fh2968 68 (by decide)).trans s2958
    have s3015 := (fh2968 69 (by decide)).trans s2959
    have s3016 := (fh2968 70 (by decide)).trans s2960
    clear G2881 dd2885 pr2962 pr2963 pr2964 pr2965 pr2966 rf2883 rf2884 rw2882 s2924 s2925 s2926 s2927 s2928 s2929 s2930 s2931 s2932 s2933 s2934 s2935 s2936 s2937 s2938 s2939 s2940 s2941 s2942 s2943 s2944 s2945 s2946 s2947 s2948 s2949 s2950 s2951 s2952 s2953 s2954 s2955 s2956 s2957 s2958 s2959 s2960 sS2967
    refine gz_s 2 (pc' := 314) (L' := [some (.ref x), none, none, none, none]) (S' := [.int (zi 514), .ref x]) rfl ?_
    refine gs_newr 40 rfl (by decide) rfl sS2976.1 (Nat.le_of_lt (Nat.lt_of_le_of_lt (gJ.cell sS2976.1 t2887 rfl).1 (gJ.cell sS2976.1 t2887 rfl).2.1)) (by omega) (by omega) rfl rfl (by show (514 : Int) ≤ _; omega) (by show _ ≤ (514 : Int); omega) (fun _ _ => gos_i (by decide) (by decide)) (fun ty3017 h3018 c3019 g3020 tc3019 lc3019 nc3019 mc3019 ec3019 dc3019 uc3019 => ?_)
    have gac3019 : h.1 ≤ c3019 := by have h8 := G2970.2.1; have h9 := sS2976.2.1; omega
    have uq3021 := uc3019 uq2880 (Or.inr (gNo.sub (by decide +kernel) pr2961))
    have G3022 : gSg [1, 2, 3, 4, 5, 6, 7, 8, 9, 10, 11, 12, 13, 14, 15, 16, 17, 18, 19, 20, 21, 22, 23, 24, 25, 26, 27, 28, 29, 30, 31, 32, 33, 34, 35, 36, 37, 38, 39, 40, 41, 42, 200] [x] [8999, 10999, 31999] ty h ty3017 h3018 := gSg.tr (gSg.ss G2970 sS2976 (by decide)) g3020 (by decide) (by decide) (fun x hx => by cases hx)
    have rw3023 := gSg.raw g3020 rf2977 (fun w => by cases w)
    have rf3024 := (rw3023.2.2.1.trans kh2968)
    have rf3025 := (rw3023.2.2.2.trans rf2978)
    have dd3026 := gSg.rawd (ci := 12) (ps := [71, 70, 69, 68, 66, 65, 63, 60, 58, 57, 56, 55, 54, 49, 40, 38, 37, 36, 35, 34, 33, 32, 31, 30, 29, 28, 27, 26, 25, 15, 14, 13, 12, 11, 10, 9, 4, 2]) g3020 rf2977 (fun w => by cases w) t2886 (by decide) dd2979
    have t3027 : ty3017 x = 200 := rw3023.1.trans t2886
    have t3028 : ty3017 c3 = 2 := gSg.typ g3020 sS2976.1 t2887 rTk_2
    have t3029 : ty3017 c23 = 3 := gSg.typ g3020 sS2976.1 t2888 rTk_3
    have t3030 : ty3017 c46 = 4 := gSg.typ g3020 sS2976.1 t2889 rTk_4
    have t3031 : ty3017 c72 = 5 := gSg.typ g3020 sS2976.1 t2890 rTk_5
    have t3032 : ty3017 c101 = 6 := gSg.typ g3020 sS2976.1 t2891 rTk_6
    have t3033 : ty3017 c133 = 7 := gSg.typ g3020 sS2976.1 t2892 rTk_7
    have t3034 : ty3017 c171 = 8 := gSg.typ g3020 sS2976.1 t2893 rTk_8
    have t3035 : ty3017 c209 = 9 := gSg.typ g3020 sS2976.1 t2894 rTk_9
    have t3036 : ty3017 c250 = 10 := gSg.typ g3020 sS2976.1 t2895 rTk_10
    have t3037 : ty3017 c294 = 11 := gSg.typ g3020 sS2976.1 t2896 rTk_11
    have t3038 : ty3017 c341 = 12 := gSg.typ g3020 sS2976.1 t2897 rTk_12
    have t3039 : ty3017 c391 = 13 := gSg.typ g3020 sS2976.1 t2898 rTk_13
    have t3040 : ty3017 c447 = 14 := gSg.typ g3020 sS2976.1 t2899 rTk_14
    have t3041 : ty3017 c503 = 15 := gSg.typ g3020 sS2976.1 t2900 rTk_15
    have t3042 : ty3017 c562 = 16 := gSg.typ g3020 sS2976.1 t2901 rTk_16
    have t3043 : ty3017 c624 = 17 := gSg.typ g3020 sS2976.1 t2902 rTk_17
    have t3044 : ty3017 c689 = 18 := gSg.typ g3020 sS2976.1 t2903 rTk_18
    have t3045 : ty3017 c760 = 19 := gSg.typ g3020 sS2976.1 t2904 rTk_19
    have t3046 : ty3017 c831 = 20 := gSg.typ g3020 sS2976.1 t2905 rTk_20
    have t3047 : ty3017 c905 = 21 := gSg.typ g3020 sS2976.1 t2906 rTk_21
    have t3048 : ty3017 c982 = 22 := gSg.typ g3020 sS2976.1 t2907 rTk_22
    have t3049 : ty3017 c1065 = 23 := gSg.typ g3020 sS2976.1 t2908 rTk_23
    have t3050 : ty3017 c1148 = 24 := gSg.typ g3020 sS2976.1 t2909 rTk_24
    have t3051 : ty3017 c1234 = 25 := gSg.typ g3020 sS2976.1 t2910 rTk_25
    have t3052 : ty3017 c1323 = 26 := gSg.typ g3020 sS2976.1 t2911 rTk_26
    have t3053 : ty3017 c1420 = 27 := gSg.typ g3020 sS2976.1 t2912 rTk_27
    have t3054 : ty3017 c1519 = 28 := gSg.typ g3020 sS2976.1 t2913 rTk_28
    have t3055 : ty3017 c1623 = 29 := gSg.typ g3020 sS2976.1 t2914 rTk_29
    have t3056 : ty3017 c1735 = 30 := gSg.typ g3020 sS2976.1 t2915 rTk_30
    have t3057 : ty3017 c1849 = 31 := gSg.typ g3020 sS2976.1 t2916 rTk_31
    have t3058 : ty3017 c1966 = 32 := gSg.typ g3020 sS2976.1 t2917 rTk_32
    have t3059 : ty3017 c2089 = 33 := gSg.typ g3020 sS2976.1 t2918 rTk_33
    have t3060 : ty3017 c2212 = 34 := gSg.typ g3020 sS2976.1 t2919 rTk_34
    have t3061 : ty3017 c2338 = 35 := gSg.typ g3020 sS2976.1 t2920 rTk_35
    have t3062 : ty3017 c2470 = 36 := gSg.typ g3020 sS2976.1 t2921 rTk_36
    have t3063 : ty3017 c2602 = 37 := gSg.typ g3020 sS2976.1 t2922 rTk_37
    have t3064 : ty3017 c2737 = 38 := gSg.typ g3020 sS2976.1 t2923 rTk_38
    have t3065 : ty3017 c2878 = 39 := gSg.typ g3020 sS2976.1 tc2878 rTk_39
    have s3066 := gSg.rawat g3020 rf2977 (fun w => by cases w) t2886 (by decide) s2980
    have s3067 := gSg.rawat g3020 rf2977 (fun w => by cases w) t2886 (by decide) s2981
    have s3068 := gSg.rawat g3020 rf2977 (fun w => by cases w) t2886 (by decide) s2982
    have s3069 := gSg.rawat g3020 rf2977 (fun w => by cases w) t2886 (by decide) s2983
    have s3070 := gSg.rawat g3020 rf2977 (fun w => by cases w) t2886 (by decide) s2984
    have s3071 := gSg.rawat g3020 rf2977 (fun w => by cases w) t2886 (by decide) s2985
    have s3072 := gSg.rawat g3020 rf2977 (fun w => by cases w) t2886 (by decide) s2986
    have s3073 := gSg.rawat g3020 rf2977 (fun w => by cases w) t2886 (by decide) s2987
    have s3074 := gSg.rawat g3020 rf2977 (fun w => by cases w) t2886 (by decide) s2988
    have s3075 := gSg.rawat g3020 rf2977 (fun w => by cases w) t2886 (by decide) s2989
    have s3076 := gSg.rawat g3020 rf2977 (fun w => by cases w) t2886 (by decide) s2990
    have s3077 := gSg.rawat g3020 rf2977 (fun w => by cases w) t2886 (by decide) s2991
    have s3078 := gSg.rawat g3020 rf2977 (fun w => by cases w) t2886 (by decide) s2992
    have s3079 := gSg.rawat g3020 rf2977 (fun w => by cases w) t2886 (by decide) s2993
    have s3080 := gSg.rawat g3020 rf2977 (fun w => by cases w) t2886 (by decide) s2994
    have s3081 := gSg.rawat g3020 rf2977 (fun w => by cases w) t2886 (by decide) s2995
    have s3082 := gSg.rawat g3020 rf2977 (fun w => by cases w) t2886 (by decide) s2996
    have s3083 := gSg.rawat g3020 rf2977 (fun w => by cases w) t2886 (by decide) s2997
    have s3084 := gSg.rawat g3020 rf2977 (fun w => by cases w) t2886 (by decide) s2998
    have s3085 := gSg.rawat g3020 rf2977 (fun w => by cases w) t2886 (by decide) s2999
    have s3086 := gSg.rawat g3020 rf2977 (fun w => by cases w) t2886 (by decide) s3000
    have s3087 := gSg.rawat g3020 rf2977 (fun w => by cases w) t2886 (by decide) s3001
    have s3088 := gSg.rawat g3020 rf2977 (fun w => by cases w) t2886 (by decide) s3002
    have s3089 := gSg.rawat g3020 rf2977 (fun w => by cases w) t2886 (by decide) s3003
    have s3090 := gSg.rawat g3020 rf2977 (fun w => by cases w) t2886 (by decide) s3004
    have s3091 := gSg.rawat g3020 rf2977 (fun w => by cases w) t2886 (by decide) s3005
    have s3092 := gSg.rawat g3020 rf2977 (fun w => by cases w) t2886 (by decide) s3006
    have s3093 := gSg.rawat g3020 rf2977 (fun w => by cases w) t2886 (by decide) s3007
    have s3094 := gSg.rawat g3020 rf2977 (fun w => by cases w) t2886 (by decide) s3008
    have s3095 := gSg.rawat g3020 rf2977 (fun w => by cases w) t2886 (by decide) s3009
    have s3096 := gSg.rawat g3020 rf2977 (fun w => by cases w) t2886 (by decide) s3010
    have s3097 := gSg.rawat g3020 rf2977 (fun w => by cases w) t2886 (by decide) s3011
    have s3098 := gSg.rawat g3020 rf2977 (fun w => by cases w) t2886 (by decide) s3012
    have s3099 := gSg.rawat g3020 rf2977 (fun w => by cases w) t2886 (by decide) s3013
    have s3100 := gSg.rawat g3020 rf2977 (fun w => by cases w) t2886 (by decide) s3014
    have s3101 := gSg.rawat g3020 rf2977 (fun w => by cases w) t2886 (by decide) s3015
    have s3102 := gSg.rawat g3020 rf2977 (fun w => by cases w) t2886 (by decide) s3016
    have s3103 := gSg.rawat g3020 rf2977 (fun w => by cases w) t2886 (by decide) eh2968
    have pr3104 : gNo [1, 41, 42] ty3017 := gNo.gr g3020 (by decide +kernel) (gNo.sub (by decide +kernel) pr2961)
    have pr3105 := gRn.gr g3020 sS2976.1 rfl (by decide) (by decide) pr2971
    have pr3106 := gRn.gr g3020 sS2976.1 rfl (by decide) (by decide) pr2972
    have pr3107 := gRn.gr g3020 sS2976.1 rfl (by decide) (by decide) pr2973
    have pr3108 := gRn.gr g3020 sS2976.1 rfl (by decide) (by decide) pr2974
    have pr3109 := gRn.gr g3020 sS2976.1 rfl (by decide) (by decide) pr2975
    have sS3110 : gSs rT 1027 ty3017 [8999, 10999, 31999] h3018 h3018 := gSs.rf g3020.1
    clear G2970 dd2979 pr2961 pr2971 pr2972 pr2973 pr2974 pr2975 rf2977 rf2978 s2980 s2981 s2982 s2983 s2984 s2985 s2986 s2987 s2988 s2989 s2990 s2991 s2992 s2993 s2994 s2995 s2996 s2997 s2998 s2999 s3000 s3001 s3002 s3003 s3004 s3005 s3006 s3007 s3008 s3009 s3010 s3011 s3012 s3013 s3014 s3015 s3016 sS2976 t2886 t2887 t2888 t2889 t2890 t2891 t2892 t2893 t2894 t2895 t2896 t2897 t2898 t2899 t2900 t2901 t2902 t2903 t2904 t2905 t2906 t2907 t2908 t2909 t2910 t2911 t2912 t2913 t2914 t2915 t2916 t2917 t2918 t2919 t2920 t2921 t2922 t2923 uq2880
    refine gs_rput rfl (by decide) rfl sS3110.1 t3027 nx rw3023.2.1 rf3024 rfl (Or.inr rfl) (fun h3111 g3112 nh3111 mh3111 kh3111 zh3111 eh3111 fh3111 => ?_)
    have G3113 : gSg [1, 2, 3, 4, 5, 6, 7, 8, 9, 10, 11, 12, 13, 14, 15, 16, 17, 18, 19, 20, 21, 22, 23, 24, 25, 26, 27, 28, 29, 30, 31, 32, 33, 34, 35, 36, 37, 38, 39, 40, 41, 42, 200] [x] [8999, 10999, 31999] ty h ty3017 h3111 := gSg.tr (gSg.ss G3022 sS3110 (by decide)) g3112 (by decide) (by decide) (fun x hx => Or.inr hx)
    have pr3114 := gRn.gr g3112 sS3110.1 rfl (by decide) (by decide) pr3105
    have pr3115 := gRn.gr g3112 sS3110.1 rfl (by decide) (by decide) pr3106
    have pr3116 := gRn.gr g3112 sS3110.1 rfl (by decide) (by decide) pr3107
    have pr3117 := gRn.gr g3112 sS3110.1 rfl (by decide) (by decide) pr3108
    have pr3118 := gRn.gr g3112 sS3110.1 rfl (by decide) (by decide) pr3109
    have sS3119 : gSs rT 1027 ty3017 [8999, 10999, 31999] h3111 h3111 := gSs.rf g3112.1
    have rf3120 := Nat.lt_of_lt_of_eq rw3023.2.1 nh3111.symm
    have rf3121 := zh3111.trans rf3025
    have dd3122 : ∀ k, ¬ k ∈ ([72, 71, 70, 69, 68, 66, 65, 63, 60, 58, 57, 56, 55, 54, 49, 40, 38, 37, 36, 35, 34, 33, 32, 31, 30, 29, 28, 27, 26, 25, 15, 14, 13, 12, 11, 10, 9, 4, 2] : List Nat) → h3111.2.2.2.2 x k = defaultValue (gGG.2.1 12 k) := raw_dp fh3111 dd3026
    have s3123 := (fh3111 2 (by decide)).trans s3066
    have s3124 := (fh3111 4 (by decide)).trans s3067
    have s3125 := (fh3111 9 (by decide)).trans s3068
    have s3126 := (fh3111 10 (by decide)).trans s3069
    have s3127 := (fh3111 11 (by decide)).trans s3070
    have s3128 := (fh3111 12 (by decide)).trans s3071
    have s3129 := (fh3111 13 (by decide)).trans s3072
    have s3130 := (fh3111 14 (by decide)).trans s3073
    have s3131 := (fh3111 15 (by decide)).trans s3074
    have s3132 := (fh3111 25 (by decide)).trans s3075
    have s3133 := (fh3111 26 (by decide)).trans s3076
    have s3134 := (fh3111 27 (by decide)).trans s3077
    have s3135 := (fh3111 28 (by decide)).trans s3078
    have s3136 := (fh3111 29 (by decide)).trans s3079
    have s3137 := (fh3111 30 (by decide)).trans s3080
    have s3138 := (fh3111 31 (by decide)).trans s3081
    have s3139 := (fh3111 32 (by decide)).trans s3082
    have s3140 := (fh3111 33 (by decide)).trans s3083
    have s3141 := (fh3111 34 (by decide)).trans s3084
    have s3142 := (fh3111 35 (by decide)).trans s3085
    have s3143 := (fh3111 36 (by decide)).trans s3086
    have s3144 := (fh3111 37 (by decide)).trans s3087
    have s3145 := (fh3111 38 (by decide)).trans s3088
    have s3146 := (fh3111 40 (by decide)).trans s3089
    have s3147 := (fh3111 49 (by decide)).trans s3090
    have s3148 := (fh3111 54 (by decide)).trans s3091
    have s3149 := (fh3111 55 (by decide)).trans s3092
    have s3150 := (fh3111 56 (by decide)).trans s3093
    have s3151 := (fh3111 57 (by decide)).trans s3094
    have s3152 := (fh3111 58 (by decide)).trans s3095
    have s3153 := (fh3111 60 (by decide)).trans s3096
    have s3154 := (fh3111 63 (by decide)).trans s3097
    have s3155 := (fh3111 65 (by decide)).trans s3098
    have s3156 := (fh3111 66 (by decide)).trans s3099
    have s3157 := (fh3111 68 (by decide)).trans s3100
    have s3158 := (fh3111 69 (by decide)).trans s3101
    have s3159 := (fh3111 70 (by decide)).trans s3102
    have s3160 := (fh3111 71 (by decide)).trans s3103
    clear G3022 dd3026 pr3105 pr3106 pr3107 pr3108 pr3109 rf3024 rf3025 rw3023 s3066 s3067 s3068 s3069 s3070 s3071 s3072 s3073 s3074 s3075 s3076 s3077 s3078 s3079 s3080 s3081 s3082 s3083 s3084 s3085 s3086 s3087 s3088 s3089 s3090 s3091 s3092 s3093 s3094 s3095 s3096 s3097 s3098 s3099 s3100 s3101 s3102 s3103 sS3110
    refine gz_s 2 (pc' := 323) (L' := [some (.ref x), none, none, none, none]) (S' := [.int (zi 514), .ref x]) rfl ?_
    refine gs_newr 41 rfl (by decide) rfl sS3119.1 (Nat.le_of_lt (Nat.lt_of_le_of_lt (gJ.cell sS3119.1 t3028 rfl).1 (gJ.cell sS3119.1 t3028 rfl).2.1)) (by omega) (by omega) rfl rfl (by show (514 : Int) ≤ _; omega) (by show _ ≤ (514 : Int); omega) (fun _ _ => gos_i (by decide) (by decide)) (fun ty3161 h3162 c3163 g3164 tc3163 lc3163 nc3163 mc3163 ec3163 dc3163 uc3163 => ?_)
    have gac3163 : h.1 ≤ c3163 := by have h8 := G3113.2.1; have h9 := sS3119.2.1; omega
    have uq3165 := uc3163 uq3021 (Or.inr (gNo.sub (by decide +kernel) pr3104))
    have G3166 : gSg [1, 2, 3, 4, 5, 6, 7, 8, 9, 10, 11, 12, 13, 14, 15, 16, 17, 18, 19, 20, 21, 22, 23, 24, 25, 26, 27, 28, 29, 30, 31, 32, 33, 34, 35, 36, 37, 38, 39, 40, 41, 42, 200] [x] [8999, 10999, 31999] ty h ty3161 h3162 := gSg.tr (gSg.ss G3113 sS3119 (by decide)) g3164 (by decide) (by decide) (fun x hx => by cases hx)
    have rw3167 := gSg.raw g3164 rf3120 (fun w => by cases w)
    have rf3168 := (rw3167.2.2.1.trans kh3111)
    have rf3169 := (rw3167.2.2.2.trans rf3121)
    have dd3170 := gSg.rawd (ci := 12) (ps := [72, 71, 70, 69, 68, 66, 65, 63, 60, 58, 57, 56, 55, 54, 49, 40, 38, 37, 36, 35, 34, 33, 32, 31, 30, 29, 28, 27, 26, 25, 15, 14, 13, 12, 11, 10, 9, 4, 2]) g3164 rf3120 (fun w => by cases w) t3027 (by decide) dd3122
    have t3171 : ty3161 x = 200 := rw3167.1.trans t3027
    have t3172 : ty3161 c3 = 2 := gSg.typ g3164 sS3119.1 t3028 rTk_2
    have t3173 : ty3161 c23 = 3 := gSg.typ g3164 sS3119.1 t3029 rTk_3
    have t3174 : ty3161 c46 = 4 := gSg.typ g3164 sS3119.1 t3030 rTk_4
    have t3175 : ty3161 c72 = 5 := gSg.typ g3164 sS3119.1 t3031 rTk_5
    have t3176 : ty3161 c101 = 6 := gSg.typ g3164 sS3119.1 t3032 rTk_6
    have t3177 : ty3161 c133 = 7 := gSg.typ g3164 sS3119.1 t3033 rTk_7
    have t3178 : ty3161 c171 = 8 := gSg.typ g3164 sS3119.1 t3034 rTk_8
    have t3179 : ty3161 c209 = 9 := gSg.typ g3164 sS3119.1 t3035 rTk_9
    have t3180 : ty3161 c250 = 10 := gSg.typ g3164 sS3119.1 t3036 rTk_10
    have t3181 : ty3161 c294 = 11 := gSg.typ g3164 sS3119.1 t3037 rTk_11
    have t3182 : ty3161 c341 = 12 := gSg.typ g3164 sS3119.1 t3038 rTk_12
    have t3183 : ty3161 c391 = 13 := gSg.typ g3164 sS3119.1 t3039 rTk_13
    have t3184 : ty3161 c447 = 14 := gSg.typ g3164 sS3119.1 t3040 rTk_14
    have t3185 : ty3161 c503 = 15 := gSg.typ g3164 sS3119.1 t3041 rTk_15
    have t3186 : ty3161 c562 = 16 := gSg.typ g3164 sS3119.1 t3042 rTk_16
    have t3187 : ty3161 c624 = 17 := gSg.typ g3164 sS3119.1 t3043 rTk_17
    have t3188 : ty3161 c689 = 18 := gSg.typ g3164 sS3119.1 t3044 rTk_18
    have t3189 : ty3161 c760 = 19 := gSg.typ g3164 sS3119.1 t3045 rTk_19
    have t3190 : ty3161 c831 = 20 := gSg.typ g3164 sS3119.1 t3046 rTk_20
    have t3191 : ty3161 c905 = 21 := gSg.typ g3164 sS3119.1 t3047 rTk_21
    have t3192 : ty3161 c982 = 22 := gSg.typ g3164 sS3119.1 t3048 rTk_22
    have t3193 : ty3161 c1065 = 23 := gSg.typ g3164 sS3119.1 t3049 rTk_23
    have t3194 : ty3161 c1148 = 24 := gSg.typ g3164 sS3119.1 t3050 rTk_24
    have t3195 : ty3161 c1234 = 25 := gSg.typ g3164 sS3119.1 t3051 rTk_25
    have t3196 : ty3161 c1323 = 26 := gSg.typ g3164 sS3119.1 t3052 rTk_26
    have t3197 : ty3161 c1420 = 27 := gSg.typ g3164 sS3119.1 t3053 rTk_27
    have t3198 : ty3161 c1519 = 28 := gSg.typ g3164 sS3119.1 t3054 rTk_28
    have t3199 : ty3161 c1623 = 29 := gSg.typ g3164 sS3119.1 t3055 rTk_29
    have t3200 : ty3161 c1735 = 30 := gSg.typ g3164 sS3119.1 t3056 rTk_30
    have t3201 : ty3161 c1849 = 31 := gSg.typ g3164 sS3119.1 t3057 rTk_31
    have t3202 : ty3161 c1966 = 32 := gSg.typ g3164 sS3119.1 t3058 rTk_32
    have t3203 : ty3161 c2089 = 33 := gSg.typ g3164 sS3119.1 t3059 rTk_33
    have t3204 : ty3161 c2212 = 34 := gSg.typ g3164 sS3119.1 t3060 rTk_34
    have t3205 : ty3161 c2338 = 35 := gSg.typ g3164 sS3119.1 t3061 rTk_35
    have t3206 : ty3161 c2470 = 36 := gSg.typ g3164 sS3119.1 t3062 rTk_36
    have t3207 : ty3161 c2602 = 37 := gSg.typ g3164 sS3119.1 t3063 rTk_37
    have t3208 : ty3161 c2737 = 38 := gSg.typ g3164 sS3119.1 t3064 rTk_38
    have t3209 : ty3161 c2878 = 39 := gSg.typ g3164 sS3119.1 t3065 rTk_39
    have t3210 : ty3161 c3019 = 40 := gSg.typ g3164 sS3119.1 tc3019 rTk_40
    have s3211 := gSg.rawat g3164 rf3120 (fun w => by cases w) t3027 (by decide) s3123
    have s3212 := gSg.rawat g3164 rf3120 (fun w => by cases w) t3027 (by decide) s3124
    have s3213 := gSg.rawat g3164 rf3120 (fun w => by cases w) t3027 (by decide) s3125
    have s3214 := gSg.rawat g3164 rf3120 (fun w => by cases w) t3027 (by decide) s3126
    have s3215 := gSg.rawat g3164 rf3120 (fun w => by cases w) t3027 (by decide) s3127
    have s3216 := gSg.rawat g3164 rf3120 (fun w => by cases w) t3027 (by decide) s3128
    have s3217 := gSg.rawat g3164 rf3120 (fun w => by cases w) t3027 (by decide) s3129
    have s3218 := gSg.rawat g3164 rf3120 (fun w => by cases w) t3027 (by decide) s3130
    have s3219 := gSg.rawat g3164 rf3120 (fun w => by cases w) t3027 (by decide) s3131
    have s3220 := gSg.rawat g3164 rf3120 (fun w => by cases w) t3027 (by decide) s3132
    have s3221 := gSg.rawat g3164 rf3120 (fun w => by cases w) t3027 (by decide) s3133
    have s3222 := gSg.rawat g3164 rf3120 (fun w => by cases w) t3027 (by decide) s3134
    have s3223 := gSg.rawat g3164 rf3120 (fun w => by cases w) t3027 (by decide) s3135
    have s3224 := gSg.rawat g3164 rf3120 (fun w => by cases w) t3027 (by decide) s3136
    have s3225 := gSg.rawat g3164 rf3120 (fun w => by cases w) t3027 (by decide) s3137
    have s3226 := gSg.rawat g3164 rf3120 (fun w => by cases w) t3027 (by decide) s3138
    have s3227 := gSg.rawat g3164 rf3120 (fun w => by cases w) t3027 (by decide) s3139
    have s3228 := gSg.rawat g3164 rf3120 (fun w => by cases w) t3027 (by decide) s3140
    have s3229 := gSg.rawat g3164 rf3120 (fun w => by cases w) t3027 (by decide) s3141
    have s3230 := gSg.rawat g3164 rf3120 (fun w => by cases w) t3027 (by decide) s3142
    have s3231 := gSg.rawat g3164 rf3120 (fun w => by cases w) t3027 (by decide) s3143
    have s3232 := gSg.rawat g3164 rf3120 (fun w => by cases w) t3027 (by decide) s3144
    have s3233 := gSg.rawat g3164 rf3120 (fun w => by cases w) t3027 (by decide) s3145
    have s3234 := gSg.rawat g3164 rf3120 (fun w => by cases w) t3027 (by decide) s3146
    have s3235 := gSg.rawat g3164 rf3120 (fun w => by cases w) t3027 (by decide) s3147
    have s3236 := gSg.rawat g3164 rf3120 (fun w => by cases w) t3027 (by decide) s3148
    have s3237 := gSg.rawat g3164 rf3120 (fun w => by cases w) t3027 (by decide) s3149
    have s3238 := gSg.rawat g3164 rf3120 (fun w => by cases w) t3027 (by decide) s3150
    have s3239 := gSg.rawat g3164 rf3120 (fun w => by cases w) t3027 (by decide) s3151
    have s3240 := gSg.rawat g3164 rf3120 (fun w => by cases w) t3027 (by decide) s3152
    have s3241 := gSg.rawat g3164 rf3120 (fun w => by cases w) t3027 (by decide) s3153
    have s3242 := gSg.rawat g3164 rf3120 (fun w => by cases w) t3027 (by decide) s3154
    have s3243 := gSg.rawat g3164 rf3120 (fun w => by cases w) t3027 (by decide) s3155
    have s3244 := gSg.rawat g3164 rf3120 (fun w => by cases w) t3027 (by decide) s3156
    have s3245 := gSg.rawat g3164 rf3120 (fun w => by cases w) t3027 (by decide) s3157
    have s3246 := gSg.rawat g3164 rf3120 (fun w => by cases w) t3027 (by decide) s3158
    have s3247 := gSg.rawat g3164 rf3120 (fun w => by cases w) t3027 (by decide) s3159
    have s3248 := gSg.rawat g3164 rf3120 (fun w => by cases w) t3027 (by decide) s3160
    have s3249 := gSg.rawat g3164 rf3120 (fun w => by cases w) t3027 (by decide) eh3111
    have pr3250 : gNo [1, 42] ty3161 := gNo.gr g3164 (by decide +kernel) (gNo.sub (by decide +kernel) pr3104)
    have pr3251 := gRn.gr g3164 sS3119.1 rfl (by decide) (by decide) pr3114
    have pr3252 := gRn.gr g3164 sS3119.1 rfl (by decide) (by decide) pr3115
    have pr3253 := gRn.gr g3164 sS3119.1 rfl (by decide) (by decide) pr3116
    have pr3254 := gRn.gr g3164 sS3119.1 rfl (by decide) (by decide) pr3117
    have pr3255 := gRn.gr g3164 sS3119.1 rfl (by decide) (by decide) pr3118
    have sS3256 : gSs rT 1027 ty3161 [8999, 10999, 31999] h3162 h3162 := gSs.rf g3164.1
    clear G3113 dd3122 pr3104 pr3114 pr3115 pr3116 pr3117 pr3118 rf3120 rf3121 s3123 s3124 s3125 s3126 s3127 s3128 s3129 s3130 s3131 s3132 s3133 s3134 s3135 s3136 s3137 s3138 s3139 s3140 s3141 s3142 s3143 s3144 s3145 s3146 s3147 s3148 s3149 s3150 s3151 s3152 s3153 s3154 s3155 s3156 s3157 s3158 s3159 s3160 sS3119 t3027 t3028 t3029 t3030 t3031 t3032 t3033 t3034 t3035 t3036 t3037 t3038 t3039 t3040 t3041 t3042 t3043 t3044 t3045 t3046 t3047 t3048 t3049 t3050 t3051 t3052 t3053 t3054 t3055 t3056 t3057 t3058 t3059 t3060 t3061 t3062 t3063 t3064 t3065 uq3021
    refine gs_rput rfl (by decide) rfl sS3256.1 t3171 nx rw3167.2.1 rf3168 rfl (Or.inr rfl) (fun h3257 g3258 nh3257 mh3257 kh3257 zh3257 eh3257 fh3257 => ?_)
    have G3259 : gSg [1, 2, 3, 4, 5, 6, 7, 8, 9, 10, 11, 12, 13, 14, 15, 16, 17, 18, 19, 20, 21, 22, 23, 24, 25, 26, 27, 28, 29, 30, 31, 32, 33, 34, 35, 36, 37, 38, 39, 40, 41, 42, 200] [x] [8999, 10999, 31999] ty h ty3161 h3257 := gSg.tr (gSg.ss G3166 sS3256 (by decide)) g3258 (by decide) (by decide) (fun x hx => Or.inr hx)
    have pr3260 := gRn.gr g3258 sS3256.1 rfl (by decide) (by decide) pr3251
    have pr3261 := gRn.gr g3258 sS3256.1 rfl (by decide) (by decide) pr3252
    have pr3262 := gRn.gr g3258 sS3256.1 rfl (by decide) (by decide) pr3253
    have pr3263 := gRn.gr g3258 sS3256.1 rfl (by decide) (by decide) pr3254
    have pr3264 := gRn.gr g3258 sS3256.1 rfl (by decide) (by decide) pr3255
    have sS3265 : gSs rT 1027 ty3161 [8999, 10999, 31999] h3257 h3257 := gSs.rf g3258.1
    have rf3266 := Nat.lt_of_lt_of_eq rw3167.2.1 nh3257.symm
    have rf3267 := zh3257.trans rf3169
    have dd3268 : ∀ k, ¬ k ∈ ([73, 72, 71, 70, 69, 68, 66, 65, 63, 60, 58, 57, 56, 55, 54, 49, 40, 38, 37, 36, 35, 34, 33, 32, 31, 30, 29, 28, 27, 26, 25, 15, 14, 13, 12, 11, 10, 9, 4, 2] : List Nat) → h3257.2.2.2.2 x k = defaultValue (gGG.2.1 12 k) := raw_dp fh3257 dd3170
    have s3269 := (fh3257 2 (by decide)).trans s3211
    have s3270 := (fh3257 4 (by decide)).trans s3212
    have s3271 := (fh3257 9 (by decide)).trans s3213
    have s3272 := (fh3257 10 (by decide)).trans s3214
    have s3273 := (fh3257 11 (by decide)).trans s3215
    have s3274 := (fh3257 12 (by decide)).trans s3216
    have s3275 := (fh3257 13 (by decide)).trans s3217
    have s3276 := (fh3257 14 (by decide)).trans s3218
    have s3277 := (fh3257 15 (by decide)).trans s3219
    have s3278 := (fh3257 25 (by decide)).trans s3220
    have s3279 := (fh3257 26 (by decide)).trans s3221
    have s3280 := (fh3257 27 (by decide)).trans s3222
    have s3281 := (fh3257 28 (by decide)).trans s3223
    have s3282 := (fh3257 29 (by decide)).trans s3224
    have s3283 := (fh3257 30 (by decide)).trans s3225
    have s3284 := (fh3257 31 (by decide)).trans s3226
    have s3285 := (fh3257 32 (by decide)).trans s3227
    have s3286 := (fh3257 33 (by decide)).trans s3228
    have s3287 := (fh3257 34 (by decide)).trans s3229
    have s3288 := (fh3257 35 (by decide)).trans s3230
    have s3289 := (fh3257 36 (by decide)).trans s3231
    have s3290 := (fh3257 37 (by decide)).trans s3232
    have s3291 := (fh3257 38 (by decide)).trans s3233
    have s3292 := (fh3257 40 (by decide)).trans s3234
    have s3293 := (fh3257 49 (by decide)).trans s3235
    have s3294 := (fh3257 54 (by decide)).trans s3236
    have s3295 := (fh3257 55 (by decide)).trans s3237
    have s3296 := (fh3257 56 (by decide)).trans s3238
    have s3297 := (fh3257 57 (by decide)).trans s3239
    have s3298 := (fh3257 58 (by decide)).trans s3240
    have s3299 := (fh3257 60 (by decide)).trans s3241
    have s3300 := (fh3257 63 (by decide)).trans s3242
    have s3301 := (fh3257 65 (by decide)).trans s3243
    have s3302 := (fh3257 66 (by decide)).trans s3244
    have s3303 := (fh3257 68 (by decide)).trans s3245
    have s3304 := (fh3257 69 (by decide)).trans s3246
    have s3305 := (fh3257 70 (by decide)).trans s3247
    have s3306 := (fh3257 71 (by decide)).trans s3248
    have s3307 := (fh3257 72 (by decide)).trans s3249
    clear G3166 dd3170 pr3251 pr3252 pr3253 pr3254 pr3255 rf3168 rf3169 rw3167 s3211 s3212 s3213 s3214 s3215 s3216 s3217 s3218 s3219 s3220 s3221 s3222 s3223 s3224 s3225 s3226 s3227 s3228 s3229 s3230 s3231 s3232 s3233 s3234 s3235 s3236 s3237 s3238 s3239 s3240 s3241 s3242 s3243 s3244 s3245 s3246 s3247 s3248 s3249 sS3256
    have lp3308 := cmlp3308 d hJ x nx c3 c23 c46 c72 c101 c133 c171 c209 c250 c294 c341 c391 c447 c503 c562 c624 c689 c760 c831 c905 c982 c1065 c1148 c1234 c1323 c1420 c1519 c1623 c1735 c1849 c1966 c2089 c2212 c2338 c2470 c2602 c2737 c2878 c3019 c3163
    have G3749 : gSg [1, 2, 3, 4, 5, 6, 7, 8, 9, 10, 11, 12, 13, 14, 15, 16, 17, 18, 19, 20, 21, 22, 23, 24, 25, 26, 27, 28, 29, 30, 31, 32, 33, 34, 35, 36, 37, 38, 39, 40, 41, 42, 200] [x] [8999, 10999, 31999] ty h ty3161 h3257 := gSg.ss G3259 sS3265 (by decide)
    exact gz_wk (lp3308 _ ty3161 h3257  (Nat.lt_succ_self _) G3749 uq3165 t3171 t3172 t3173 t3174 t3175 t3176 t3177 t3178 t3179 t3180 t3181 t3182 t3183 t3184 t3185 t3186 t3187 t3188 t3189 t3190 t3191 t3192 t3193 t3194 t3195 t3196 t3197 t3198 t3199 t3200 t3201 t3202 t3203 t3204 t3205 t3206 t3207 t3208 t3209 t3210 tc3163 (by omega) (by omega) s3269 s3270 s3271 s3272 s3273 s3274 s3275 s3276 s3277 s3278 s3279 s3280 s3281 s3282 s3283 s3284 s3285 s3286 s3287 s3288 s3289 s3290 s3291 s3292 s3293 s3294 s3295 s3296 s3297 s3298 s3299 s3300 s3301 s3302 s3303 s3304 s3305 s3306 s3307 eh3257 pr3250 pr3260 pr3261 pr3262 pr3263 pr3264 rf3266 kh3257 rf3267 dd3268) (gLw.s (gLw.n (gLw.n (gLw.n (gLw.n gLw.z)))))
set_option maxRecDepth 20000 in
set_option maxHeartbeats 4000000 in
theorem cmlp2465 (d : Nat) {ty : Nat → Nat} {h : gH} (hJ : gJ rT 1027 ty h) (x : Nat) (nx : 1027 ≤ x) (c3 c23 c46 c72 c101 c133 c171 c209 c250 c294 c341 c391 c447 c503 c562 c624 c689 c760 c831 c905 c982 c1065 c1148 c1234 c1323 c1420 c1519 c1623 c1735 c1849 c1966 c2089 c2212 c2338 : Nat) : ∀ (fu : Nat) (ty2467 : Nat → Nat) (h2466 : gH), ((1 : Int)).toNat < fu → gSg [1, 2, 3, 4, 5, 6, 7, 8, 9, 10, 11, 12, 13, 14, 15, 16, 17, 18, 19, 20, 21, 22, 23, 24, 25, 26, 27, 28, 29, 30, 31, 32, 33, 34, 35, 36, 37, 38, 39, 40, 41, 42, 200] [x] [8999, 10999, 31999] ty h ty2467 h2466 → gUq ty2467 → ty2467 x = 200 → ty2467 c3 = 2 → ty2467 c23 = 3 → ty2467 c46 = 4 → ty2467 c72 = 5 → ty2467 c101 = 6 → ty2467 c133 = 7 → ty2467 c171 = 8 → ty2467 c209 = 9 → ty2467 c250 = 10 → ty2467 c294 = 11 → ty2467 c341 = 12 → ty2467 c391 = 13 → ty2467 c447 = 14 → ty2467 c503 = 15 → ty2467 c562 = 16 → ty2467 c624 = 17 → ty2467 c689 = 18 → ty2467 c760 = 19 → ty2467 c831 = 20 → ty2467 c905 = 21 → ty2467 c982 = 22 → ty2467 c1065 = 23 → ty2467 c1148 = 24 → ty2467 c1234 = 25 → ty2467 c1323 = 26 → ty2467 c1420 = 27 → ty2467 c1519 = 28 → ty2467 c1623 = 29 → ty2467 c1735 = 30 → ty2467 c1849 = 31 → ty2467 c1966 = 32 → ty2467 c2089 = 33 → ty2467 c2212 = 34 → ty2467 c2338 = 35 → ((h2466.1 : Int) = h.1 + 34) → ((h2466.2.1 : Int) = h.2.1 + 85504) → h2466.2.2.2.2 x 2 = .ref c3 → h2466.2.2.2.2 x 4 = .ref c23 → h2466.2.2.2.2 x 9 = .ref c46 → h2466.2.2.2.2 x 10 = .ref c72 → h2466.2.2.2.2 x 11 = .ref c101 → h2466.2.2.2.2 x 12 = .ref c133 → h2466.2.2.2.2 x 13 = .ref c171 → h2466.2.2.2.2 x 14 = .ref c209 → h2466.2.2.2.2 x 15 = .ref c250 → h2466.2.2.2.2 x 25 = .ref c294 → h2466.2.2.2.2 x 26 = .ref c341 → h2466.2.2.2.2 x 27 = .ref c391 → h2466.2.2.2.2 x 28 = .ref c447 → h2466.2.2.2.2 x 29 = .ref c503 → h2466.2.2.2.2 x 30 = .ref c562 → h2466.2.2.2.2 x 31 = .ref c624 → h2466.2.2.2.2 x 32 = .ref c689 → h2466.2.2.2.2 x 33 = .ref c760 → h2466.2.2.2.2 x 34 = .ref c831 → h2466.2.2.2.2 x 35 = .ref c905 → h2466.2.2.2.2 x 36 = .ref c982 → h2466.2.2.2.2 x 37 = .ref c1065 → h2466.2.2.2.2 x 38 = .ref c1148 → h2466.2.2.2.2 x 40 = .ref c1234 → h2466.2.2.2.2 x 49 = .ref c1323 → h2466.2.2.2.2 x 54 = .ref c1420 → h2466.2.2.2.2 x 55 = .ref c1519 → h2466.2.2.2.2 x 56 = .ref c1623 → h2466.2.2.2.2 x 57 = .ref c1735 → h2466.2.2.2.2 x 58 = .ref c1849 → h2466.2.2.2.2 x 60 = .ref c1966 → h2466.2.2.2.2 x 63 = .ref c2089 → h2466.2.2.2.2 x 65 = .ref c2212 → h2466.2.2.2.2 x 66 = .ref c2338 → gNo [1, 36, 37, 38, 39, 40, 41, 42] ty2467 → gRn 1024 ty2467 26 (fun _ => 0) h2466 → gRn 10 ty2467 27 (fun _ => 0) h2466 → gRn 10 ty2467 28 (fun _ => 0) h2466 → gRn 10 ty2467 29 (fun _ => 0) h2466 → gRn 10 ty2467 30 (fun _ => 0) h2466 → x < h2466.1 → h2466.2.2.1 x = some (.inr 12) → h2466.2.2.2.1 x = 0 → (∀ k, ¬ k ∈ ([66, 65, 63, 60, 58, 57, 56, 55, 54, 49, 40, 38, 37, 36, 35, 34, 33, 32, 31, 30, 29, 28, 27, 26, 25, 15, 14, 13, 12, 11, 10, 9, 4, 2] : List Nat) → h2466.2.2.2.2 x k = defaultValue (gGG.2.1 12 k)) → gz gPP gGG gcn (d + 1) gt130 274 [some (.ref x), none, none, none, none] [] h2466 (fun q _ => ∃ ty9 : Nat → Nat, gSg [1, 2, 3, 4, 5, 6, 7, 8, 9, 10, 11, 12, 13, 14, 15, 16, 17, 18, 19, 20, 21, 22, 23, 24, 25, 26, 27, 28, 29, 30, 31, 32, 33, 34, 35, 36, 37, 38, 39, 40, 41, 42, 200] [x] [8999, 10999, 31999] ty h ty9 q.2.2 ∧ ∃ ip n1 cw ch iv1 wr1 : Int, ty9 x = 1 ∧ gfin gt130 q.1 q.2.1 = some none ∧ q.2.2.2.2.2.2 x 16 = .int (zi ip) ∧ 0 ≤ ip ∧ ip ≤ 1 ∧ q.2.2.2.2.2.2 x 53 = .int (zi n1) ∧ 0 ≤ n1 ∧ n1 ≤ 10 ∧ q.2.2.2.2.2.2 x 50 = .int (zi cw) ∧ 0 ≤ cw ∧ cw ≤ 32 ∧ q.2.2.2.2.2.2 x 51 = .int (zi ch) ∧ 0 ≤ ch ∧ ch ≤ 32 ∧ q.2.2.2.2.2.2 x 52 = .int (zi iv1) ∧ 0 ≤ iv1 ∧ iv1 ≤ 100 ∧ q.2.2.2.2.2.2 x 59 = .int (zi wr1) ∧ 0 ≤ wr1 ∧ wr1 ≤ 60000 ∧ (ip = 0) ∧ (n1 = 0) ∧ (cw = 0) ∧ (ch = 0) ∧ (iv1 = 0) ∧ (wr1 = 0) ∧ ((q.2.2.1 : Int) = h.1 + 41) ∧ ((q.2.2.2.1 : Int) = h.2.1 + 88652) ∧ (gTs ty9 0 q.2.2) ∧ (gMw ty9 (((fun _ => 16, fun _ => 0, fun _ => 0, fun _ => 0, fun _ => 0, fun _ => 0, fun _ => -1), (0, 0, 0, fun _ => 0)) : gSS) q.2.2) ∧ (gRn 64 ty9 10 (fun i9 => eZz ((i9 : Nat) : Int)) q.2.2) ∧ gUq ty9) := by
  intro fu
  induction fu with
  | zero => intro ty2467 h2466  hm; exact absurd hm (Nat.not_lt_zero _)
  | succ fu ihlp2465 =>
    intro ty2467 h2466  lp2465m lp2465G lp2465u lp2465c0 lp2465c1 lp2465c2 lp2465c3 lp2465c4 lp2465c5 lp2465c6 lp2465c7 lp2465c8 lp2465c9 lp2465c10 lp2465c11 lp2465c12 lp2465c13 lp2465c14 lp2465c15 lp2465c16 lp2465c17 lp2465c18 lp2465c19 lp2465c20 lp2465c21 lp2465c22 lp2465c23 lp2465c24 lp2465c25 lp2465c26 lp2465c27 lp2465c28 lp2465c29 lp2465c30 lp2465c31 lp2465c32 lp2465c33 lp2465c34 lp2465f0 lp2465f1 lp2465k0 lp2465k1 lp2465k2 lp2465k3 lp2465k4 lp2465k5 lp2465k6 lp2465k7 lp2465k8 lp2465k9 lp2465k10 lp2465k11 lp2465k12 lp2465k13 lp2465k14 lp2465k15 lp2465k16 lp2465k17 lp2465k18 lp2465k19 lp2465k20 lp2465k21 lp2465k22 lp2465k23 lp2465k24 lp2465k25 lp2465k26 lp2465k27 lp2465k28 lp2465k29 lp2465k30 lp2465k31 lp2465k32 lp2465k33 lp2465k34 lp2465k35 lp2465k36 lp2465k37 lp2465k38 lp2465k39 lp2465w0 lp2465w1 lp2465w2 lp2465w3
    have sh2466 : gSs rT 1027 ty2467 [8999, 10999, 31999] h2466 h2466 := gSs.rf lp2465G.1
    refine gz_s 2 (pc' := 278) (L' := [some (.ref x), none, none, none, none]) (S' := [.int (zi 514), .ref x]) rfl ?_
    refine gs_newr 36 rfl (by decide) rfl sh2466.1 (Nat.le_of_lt (Nat.lt_of_le_of_lt (gJ.cell sh2466.1 lp2465c1 rfl).1 (gJ.cell sh2466.1 lp2465c1 rfl).2.1)) (by omega) (by omega) rfl rfl (by show (514 : Int) ≤ _; omega) (by show _ ≤ (514 : Int); omega) (fun _ _ => gos_i (by decide) (by decide)) (fun ty2468 h2469 c2470 g2471 tc2470 lc2470 nc2470 mc2470 ec2470 dc2470 uc2470 => ?_)
    have gac2470 : h.1 ≤ c2470 := by have h8 := lp2465G.2.1; have h9 := sh2466.2.1; omega
    have uq2472 := uc2470 lp2465u (Or.inr (gNo.sub (by decide +kernel) lp2465k34))
    have G2473 : gSg [1, 2, 3, 4, 5, 6, 7, 8, 9, 10, 11, 12, 13, 14, 15, 16, 17, 18, 19, 20, 21, 22, 23, 24, 25, 26, 27, 28, 29, 30, 31, 32, 33, 34, 35, 36, 37, 38, 39, 40, 41, 42, 200] [x] [8999, 10999, 31999] ty h ty2468 h2469 := gSg.tr (gSg.ss lp2465G sh2466 (by decide)) g2471 (by decide) (by decide) (fun x hx => by cases hx)
    have rw2474 := gSg.raw g2471 lp2465w0 (fun w => by cases w)
    have rf2475 := (rw2474.2.2.1.trans lp2465w1)
    have rf2476 := (rw2474.2.2.2.trans lp2465w2)
    have dd2477 := gSg.rawd (ci := 12) (ps := [66, 65, 63, 60, 58, 57, 56, 55, 54, 49, 40, 38, 37, 36, 35, 34, 33, 32, 31, 30, 29, 28, 27, 26, 25, 15, 14, 13, 12, 11, 10, 9, 4, 2]) g2471 lp2465w0 (fun w => by cases w) lp2465c0 (by decide) lp2465w3
    have t2478 : ty2468 x = 200 := rw2474.1.trans lp2465c0
    have t2479 : ty2468 c3 = 2 := gSg.typ g2471 sh2466.1 lp2465c1 rTk_2
    have t2480 : ty2468 c23 = 3 := gSg.typ g2471 sh2466.1 lp2465c2 rTk_3
    have t2481 : ty2468 c46 = 4 := gSg.typ g2471 sh2466.1 lp2465c3 rTk_4
    have t2482 : ty2468 c72 = 5 := gSg.typ g2471 sh2466.1 lp2465c4 rTk_5
    have t2483 : ty2468 c101 = 6 := gSg.typ g2471 sh2466.1 lp2465c5 rTk_6
    have t2484 : ty2468 c133 = 7 := gSg.typ g2471 sh2466.1 lp2465c6 rTk_7
    have t2485 : ty2468 c171 = 8 := gSg.typ g2471 sh2466.1 lp2465c7 rTk_8
    have t2486 : ty2468 c209 = 9 := gSg.typ g2471 sh2466.1 lp2465c8 rTk_9
    have t2487 : ty2468 c250 = 10 := gSg.typ g2471 sh2466.1 lp2465c9 rTk_10
    have t2488 : ty2468 c294 = 11 := gSg.typ g2471 sh2466.1 lp2465c10 rTk_11
    have t2489 : ty2468 c341 = 12 := gSg.typ g2471 sh2466.1 lp2465c11 rTk_12
    have t2490 : ty2468 c391 = 13 := gSg.typ g2471 sh2466.1 lp2465c12 rTk_13
    have t2491 : ty2468 c447 = 14 := gSg.typ g2471 sh2466.1 lp2465c13 rTk_14
    have t2492 : ty2468 c503 = 15 := gSg.typ g2471 sh2466.1 lp2465c14 rTk_15
    have t2493 : ty2468 c562 = 16 := gSg.typ g2471 sh2466.1 lp2465c15 rTk_16
    have t2494 : ty2468 c624 = 17 := gSg.typ g2471 sh2466.1 lp2465c16 rTk_17
    have t2495 : ty2468 c689 = 18 := gSg.typ g2471 sh2466.1 lp2465c17 rTk_18
    have t2496 : ty2468 c760 = 19 := gSg.typ g2471 sh2466.1 lp2465c18 rTk_19
    have t2497 : ty2468 c831 = 20 := gSg.typ g2471 sh2466.1 lp2465c19 rTk_20
    have t2498 : ty2468 c905 = 21 := gSg.typ g2471 sh2466.1 lp2465c20 rTk_21
    have t2499 : ty2468 c982 = 22 := gSg.typ g2471 sh2466.1 lp2465c21 rTk_22
    have t2500 : ty2468 c1065 = 23 := gSg.typ g2471 sh2466.1 lp2465c22 rTk_23
    have t2501 : ty2468 c1148 = 24 := gSg.typ g2471 sh2466.1 lp2465c23 rTk_24
    have t2502 : ty2468 c1234 = 25 := gSg.typ g2471 sh2466.1 lp2465c24 rTk_25
    have t2503 : ty2468 c1323 = 26 := gSg.typ g2471 sh2466.1 lp2465c25 rTk_26
    have t2504 : ty2468 c1420 = 27 := gSg.typ g2471 sh2466.1 lp2465c26 rTk_27
    have t2505 : ty2468 c1519 = 28 := gSg.typ g2471 sh2466.1 lp2465c27 rTk_28
    have t2506 : ty2468 c1623 = 29 := gSg.typ g2471 sh2466.1 lp2465c28 rTk_29
    have t2507 : ty2468 c1735 = 30 := gSg.typ g2471 sh2466.1 lp2465c29 rTk_30
    have t2508 : ty2468 c1849 = 31 := gSg.typ g2471 sh2466.1 lp2465c30 rTk_31
    have t2509 : ty2468 c1966 = 32 := gSg.typ g2471 sh2466.1 lp2465c31 rTk_32
    have t2510 : ty2468 c2089 = 33 := gSg.typ g2471 sh2466.1 lp2465c32 rTk_33
    have t2511 : ty2468 c2212 = 34 := gSg.typ g2471 sh2466.1 lp2465c33 rTk_34
    have t2512 : ty2468 c2338 = 35 := gSg.typ g2471 sh2466.1 lp2465c34 rTk_35
    have s2513 := gSg.rawat g2471 lp2465w0 (fun w => by cases w) lp2465c0 (by decide) lp2465k0
    have s2514 := gSg.rawat g2471 lp2465w0 (fun w => by cases w) lp2465c0 (by decide) lp2465k1
    have s2515 := gSg.rawat g2471 lp2465w0 (fun w => by cases w) lp2465c0 (by decide) lp2465k2
    have s2516 := gSg.rawat g2471 lp2465w0 (fun w => by cases w) lp2465c0 (by decide) lp2465k3
    have s2517 := gSg.rawat g2471 lp2465w0 (fun w => by cases w) lp2465c0 (by decide) lp2465k4
    have s2518 := gSg.rawat g2471 lp2465w0 (fun w => by cases w) lp2465c0 (by decide) lp2465k5
    have s2519 := gSg.rawat g2471 lp2465w0 (fun w => by cases w) lp2465c0 (by decide) lp2465k6
    have s2520 := gSg.rawat g2471 lp2465w0 (fun w => by cases w) lp2465c0 (by decide) lp2465k7
    have s2521 := gSg.rawat g2471 lp2465w0 (fun w => by cases w) lp2465c0 (by decide) lp2465k8
    have s2522 := gSg.rawat g2471 lp2465w0 (fun w => by cases w) lp2465c0 (by decide) lp2465k9
    have s2523 := gSg.rawat g2471 lp2465w0 (fun w => by cases w) lp2465c0 (by decide) lp2465k10
    have s2524 := gSg.rawat g2471 lp2465w0 (fun w => by cases w) lp2465c0 (by decide) lp2465k11
    have s2525 := gSg.rawat g2471 lp2465w0 (fun w => by cases w) lp2465c0 (by decide) lp2465k12
    have s2526 := gSg.rawat g2471 lp2465w0 (fun w => by cases w) lp2465c0 (by decide) lp2465k13
    have s2527 := gSg.rawat g2471 lp2465w0 (fun w => by cases w) lp2465c0 (by decide) lp2465k14
    have s2528 := gSg.rawat g2471 lp2465w0 (fun w => by cases w) lp2465c0 (by decide) lp2465k15
    have s2529 := gSg.rawat g2471 lp2465w0 (fun w => by cases w) lp2465c0 (by decide) lp2465k16
    have s2530 := gSg.rawat g2471 lp2465w0 (fun w => by cases w) lp2465c0 (by decide) lp2465k17
    have s2531 := gSg.rawat g2471 lp2465w0 (fun w => by cases w) lp2465c0 (by decide) lp2465k18
    have s2532 := gSg.rawat g2471 lp2465w0 (fun w => by cases w) lp2465c0 (by decide) lp2465k19
    have s2533 := gSg.rawat g2471 lp2465w0 (fun w => by cases w) lp2465c0 (by decide) lp2465k20
    have s2534 := gSg.rawat g2471 lp2465w0 (fun w => by cases w) lp2465c0 (by decide) lp2465k21
    have s2535 := gSg.rawat g2471 lp2465w0 (fun w => by cases w) lp2465c0 (by decide) lp2465k22
    have s2536 := gSg.rawat g2471 lp2465w0 (fun w => by cases w) lp2465c0 (by decide) lp2465k23
    have s2537 := gSg.rawat g2471 lp2465w0 (fun w => by cases w) lp2465c0 (by decide) lp2465k24
    have s2538 := gSg.rawat g2471 lp2465w0 (fun w => by cases w) lp2465c0 (by decide) lp2465k25
    have s2539 := gSg.rawat g2471 lp2465w0 (fun w => by cases w) lp2465c0 (by decide) lp2465k26
    have s2540 := gSg.rawat g2471 lp2465w0 (fun w => by cases w) lp2465c0 (by decide) lp2465k27
    have s2541 := gSg.rawat g2471 lp2465w0 (fun w => by cases w) lp2465c0 (by decide) lp2465k28
    have s2542 := gSg.rawat g2471 lp2465w0 (fun w => by cases w) lp2465c0 (by decide) lp2465k29
    have s2543 := gSg.rawat g2471 lp2465w0 (fun w => by cases w) lp2465c0 (by decide) lp2465k30
    have s2544 := gSg.rawat g2471 lp2465w0 (fun w => by cases w) lp2465c0 (by decide) lp2465k31
    have s2545 := gSg.rawat g2471 lp2465w0 (fun w => by cases w) lp2465c0 (by decide) lp2465k32
    have s2546 := gSg.rawat g2471 lp2465w0 (fun w => by cases w) lp2465c0 (by decide) lp2465k33
    have pr2547 : gNo [1, 37, 38, 39, 40, 41, 42] ty2468 := gNo.gr g2471 (by decide +kernel) (gNo.sub (by decide +kernel) lp2465k34)
    have pr2548 := gRn.gr g2471 sh2466.1 rfl (by decide) (by decide) lp2465k35
    have pr2549 := gRn.gr g2471 sh2466.1 rfl (by decide) (by decide) lp2465k36
    have pr2550 := gRn.gr g2471 sh2466.1 rfl (by decide) (by decide) lp2465k37
    have pr2551 := gRn.gr g2471 sh2466.1 rfl (by decide) (by decide) lp2465k38
    have pr2552 := gRn.gr g2471 sh2466.1 rfl (by decide) (by decide) lp2465k39
    have sS2553 : gSs rT 1027 ty2468 [8999, 10999, 31999] h2469 h2469 := gSs.rf g2471.1
    refine gs_rput rfl (by decide) rfl sS2553.1 t2478 nx rw2474.2.1 rf2475 rfl (Or.inr rfl) (fun h2554 g2555 nh2554 mh2554 kh2554 zh2554 eh2554 fh2554 => ?_)
    have G2556 : gSg [1, 2, 3, 4, 5, 6, 7, 8, 9, 10, 11, 12, 13, 14, 15, 16, 17, 18, 19, 20, 21, 22, 23, 24, 25, 26, 27, 28, 29, 30, 31, 32, 33, 34, 35, 36, 37, 38, 39, 40, 41, 42, 200] [x] [8999, 10999, 31999] ty h ty2468 h2554 := gSg.tr (gSg.ss G2473 sS2553 (by decide)) g2555 (by decide) (by decide) (fun x hx => Or.inr hx)
    have pr2557 := gRn.gr g2555 sS2553.1 rfl (by decide) (by decide) pr2548
    have pr2558 := gRn.gr g2555 sS2553.1 rfl (by decide) (by decide) pr2549
    have pr2559 := gRn.gr g2555 sS2553.1 rfl (by decide) (by decide) pr2550
    have pr2560 := gRn.gr g2555 sS2553.1 rfl (by decide) (by decide) pr2551
    have pr2561 := gRn.gr g2555 sS2553.1 rfl (by decide) (by decide) pr2552
    have sS2562 : gSs rT 1027 ty2468 [8999, 10999, 31999] h2554 h2554 := gSs.rf g2555.1
    have rf2563 := Nat.lt_of_lt_of_eq rw2474.2.1 nh2554.symm
    have rf2564 := zh2554.trans rf2476
    have dd2565 : ∀ k, ¬ k ∈ ([68, 66, 65, 63, 60, 58, 57, 56, 55, 54, 49, 40, 38, 37, 36, 35, 34, 33, 32, 31, 30, 29, 28, 27, 26, 25, 15, 14, 13, 12, 11, 10, 9, 4, 2] : List Nat) → h2554.2.2.2.2 x k = defaultValue (gGG.2.1 12 k) := raw_dp fh2554 dd2477
    have s2566 := (fh2554 2 (by decide)).trans s2513
    have s2567 := (fh2554 4 (by decide)).trans s2514
    have s2568 := (fh2554 9 (by decide)).trans s2515
    have s2569 := (fh2554 10 (by decide)).trans s2516
    have s2570 := (fh2554 11 (by decide)).trans s2517
    have s2571 := (fh2554 12 (by decide)).trans s2518
    have s2572 := (fh2554 13 (by decide)).trans s2519
    have s2573 := (fh2554 14 (by decide)).trans s2520
    have s2574 := (fh2554 15 (by decide)).trans s2521
    have s2575 := (fh2554 25 (by decide)).trans s2522
    have s2576 := (fh2554 26 (by decide)).trans s2523
    have s2577 := (fh2554 27 (by decide)).trans s2524
    have s2578 := (fh2554 28 (by decide)).trans s2525
    have s2579 := (fh2554 29 (by decide)).trans s2526
    have s2580 := (fh2554 30 (by decide)).trans s2527
    have s2581 := (fh2554 31 (by decide)).trans s2528
    have s2582 := (fh2554 32 (by decide)).trans s2529
    have s2583 := (fh2554 33 (by decide)).trans s2530
    have s2584 := (fh2554 34 (by decide)).trans s2531
    have s2585 := (fh2554 35 (by decide)).trans s2532
    have s2586 := (fh2554 36 (by decide)).trans s2533
    have s2587 := (fh2554 37 (by decide)).trans s2534
    have s2588 := (fh2554 38 (by decide)).trans s2535
    have s2589 := (fh2554 40 (by decide)).trans s2536
    have s2590 := (fh2554 49 (by decide)).trans s2537
    have s2591 := (fh2554 54 (by decide)).trans s2538
    have s2592 := (fh2554 55 (by decide)).trans s2539
    have s2593 := (fh2554 56 (by decide)).trans s2540
    have s2594 := (fh2554 57 (by decide)).trans s2541
    have s2595 := (fh2554 58 (by decide)).trans s2542
    have s2596 := (fh2554 60 (by decide)).trans s2543
    have s2597 := (fh2554 63 (by decide)).trans s2544
    have s2598 := (fh2554 65 (by decide)).trans s2545
    have s2599 := (fh2554 66 (by decide)).trans s2546
    clear G2473 dd2477 pr2548 pr2549 pr2550 pr2551 pr2552 rf2475 rf2476 rw2474 s2513 s2514 s2515 s2516 s2517 s2518 s2519 s2520 s2521 s2522 s2523 s2524 s2525 s2526 s2527 s2528 s2529 s2530 s2531 s2532 s2533 s2534 s2535 s2536 s2537 s2538 s2539 s2540 s2541 s2542 s2543 s2544 s2545 s2546 sS2553
    refine gz_s 2 (pc' := 287) (L' := [some (.ref x), none, none, none, none]) (S' := [.int (zi 514), .ref x]) rfl ?_
    refine gs_newr 37 rfl (by decide) rfl sS2562.1 (Nat.le_of_lt (Nat.lt_of_le_of_lt (gJ.cell sS2562.1 t2479 rfl).1 (gJ.cell sS2562.1 t2479 rfl).2.1)) (by omega) (by omega) rfl rfl (by show (514 : Int) ≤ _; omega) (by show _ ≤ (514 : Int); omega) (fun _ _ => gos_i (by decide) (by decide)) (fun ty2600 h2601 c2602 g2603 tc2602 lc2602 nc2602 mc2602 ec2602 dc2602 uc2602 => ?_)
    have gac2602 : h.1 ≤ c2602 := by have h8 := G2556.2.1; have h9 := sS2562.2.1; omega
    have uq2604 := uc2602 uq2472 (Or.inr (gNo.sub (by decide +kernel) pr2547))
    have G2605 : gSg [1, 2, 3, 4, 5, 6, 7, 8, 9, 10, 11, 12, 13, 14, 15, 16, 17, 18, 19, 20, 21, 22, 23, 24, 25, 26, 27, 28, 29, 30, 31, 32, 33, 34, 35, 36, 37, 38, 39, 40, 41, 42, 200] [x] [8999, 10999, 31999] ty h ty2600 h2601 := gSg.tr (gSg.ss G2556 sS2562 (by decide)) g2603 (by decide) (by decide) (fun x hx => by cases hx)
    have rw2606 := gSg.raw g2603 rf2563 (fun w => by cases w)
    have rf2607 := (rw2606.2.2.1.trans kh2554)
    have rf2608 := (rw2606.2.2.2.trans rf2564)
    have dd2609 := gSg.rawd (ci := 12) (ps := [68, 66, 65, 63, 60, 58, 57, 56, 55, 54, 49, 40, 38, 37, 36, 35, 34, 33, 32, 31, 30, 29, 28, 27, 26, 25, 15, 14, 13, 12, 11, 10, 9, 4, 2]) g2603 rf2563 (fun w => by cases w) t2478 (by decide) dd2565
    have t2610 : ty2600 x = 200 := rw2606.1.trans t2478
    have t2611 : ty2600 c3 = 2 := gSg.typ g2603 sS2562.1 t2479 rTk_2
    have t2612 : ty2600 c23 = 3 := gSg.typ g2603 sS2562.1 t2480 rTk_3
    have t2613 : ty2600 c46 = 4 := gSg.typ g2603 sS2562.1 t2481 rTk_4
    have t2614 : ty2600 c72 = 5 := gSg.typ g2603 sS2562.1 t2482 rTk_5
    have t2615 : ty2600 c101 = 6 := gSg.typ g2603 sS2562.1 t2483 rTk_6
    have t2616 : ty2600 c133 = 7 := gSg.typ g2603 sS2562.1 t2484 rTk_7
    have t2617 : ty2600 c171 = 8 := gSg.typ g2603 sS2562.1 t2485 rTk_8
    have t2618 : ty2600 c209 = 9 := gSg.typ g2603 sS2562.1 t2486 rTk_9
    have t2619 : ty2600 c250 = 10 := gSg.typ g2603 sS2562.1 t2487 rTk_10
    have t2620 : ty2600 c294 = 11 := gSg.typ g2603 sS2562.1 t2488 rTk_11
    have t2621 : ty2600 c341 = 12 := gSg.typ g2603 sS2562.1 t2489 rTk_12
    have t2622 : ty2600 c391 = 13 := gSg.typ g2603 sS2562.1 t2490 rTk_13
    have t2623 : ty2600 c447 = 14 := gSg.typ g2603 sS2562.1 t2491 rTk_14
    have t2624 : ty2600 c503 = 15 := gSg.typ g2603 sS2562.1 t2492 rTk_15
    have t2625 : ty2600 c562 = 16 := gSg.typ g2603 sS2562.1 t2493 rTk_16
    have t2626 : ty2600 c624 = 17 := gSg.typ g2603 sS2562.1 t2494 rTk_17
    have t2627 : ty2600 c689 = 18 := gSg.typ g2603 sS2562.1 t2495 rTk_18
    have t2628 : ty2600 c760 = 19 := gSg.typ g2603 sS2562.1 t2496 rTk_19
    have t2629 : ty2600 c831 = 20 := gSg.typ g2603 sS2562.1 t2497 rTk_20
    have t2630 : ty2600 c905 = 21 := gSg.typ g2603 sS2562.1 t2498 rTk_21
    have t2631 : ty2600 c982 = 22 := gSg.typ g2603 sS2562.1 t2499 rTk_22
    have t2632 : ty2600 c1065 = 23 := gSg.typ g2603 sS2562.1 t2500 rTk_23
    have t2633 : ty2600 c1148 = 24 := gSg.typ g2603 sS2562.1 t2501 rTk_24
    have t2634 : ty2600 c1234 = 25 := gSg.typ g2603 sS2562.1 t2502 rTk_25
    have t2635 : ty2600 c1323 = 26 := gSg.typ g2603 sS2562.1 t2503 rTk_26
    have t2636 : ty2600 c1420 = 27 := gSg.typ g2603 sS2562.1 t2504 rTk_27
    have t2637 : ty2600 c1519 = 28 := gSg.typ g2603 sS2562.1 t2505 rTk_28
    have t2638 : ty2600 c1623 = 29 := gSg.typ g2603 sS2562.1 t2506 rTk_29
    have t2639 : ty2600 c1735 = 30 := gSg.typ g2603 sS2562.1 t2507 rTk_30
    have t2640 : ty2600 c1849 = 31 := gSg.typ g2603 sS2562.1 t2508 rTk_31
    have t2641 : ty2600 c1966 = 32 := gSg.typ g2603 sS2562.1 t2509 rTk_32
    have t2642 : ty2600 c2089 = 33 := gSg.typ g2603 sS2562.1 t2510 rTk_33
    have t2643 : ty2600 c2212 = 34 := gSg.typ g2603 sS2562.1 t2511 rTk_34
    have t2644 : ty2600 c2338 = 35 := gSg.typ g2603 sS2562.1 t2512 rTk_35
    have t2645 : ty2600 c2470 = 36 := gSg.typ g2603 sS2562.1 tc2470 rTk_36
    have s2646 := gSg.rawat g2603 rf2563 (fun w => by cases w) t2478 (by decide) s2566
    have s2647 := gSg.rawat g2603 rf2563 (fun w => by cases w) t2478 (by decide) s2567
    have s2648 := gSg.rawat g2603 rf2563 (fun w => by cases w) t2478 (by decide) s2568
    have s2649 := gSg.rawat g2603 rf2563 (fun w => by cases w) t2478 (by decide) s2569
    have s2650 := gSg.rawat g2603 rf2563 (fun w => by cases w) t2478 (by decide) s2570
    have s2651 := gSg.rawat g2603 rf2563 (fun w => by cases w) t2478 (by decide) s2571
    have s2652 := gSg.rawat g2603 rf2563 (fun w => by cases w) t2478 (by decide) s2572
    have s2653 := gSg.rawat g2603 rf2563 (fun w => by cases w) t2478 (by decide) s2573
    have s2654 := gSg.rawat g2603 rf2563 (fun w => by cases w) t2478 (by decide) s2574
    have s2655 := gSg.rawat g2603 rf2563 (fun w => by cases w) t2478 (by decide) s2575
    have s2656 := gSg.rawat g2603 rf2563 (fun w => by cases w) t2478 (by decide) s2576
    have s2657 := gSg.rawat g2603 rf2563 (fun w => by cases w) t2478 (by decide) s2577
    have s2658 := gSg.rawat g2603 rf2563 (fun w => by cases w) t2478 (by decide) s2578
    have s2659 := gSg.rawat g2603 rf2563 (fun w => by cases w) t2478 (by decide) s2579
    have s2660 := gSg.rawat g2603 rf2563 (fun w => by cases w) t2478 (by decide) s2580
    have s2661 := gSg.rawat g2603 rf2563 (fun w => by cases w) t2478 (by decide) s2581
    have s2662 := gSg.rawat g2603 rf2563 (fun w => by cases w) t2478 (by decide) s2582
    have s2663 := gSg.rawat g2603 rf2563 (fun w => by cases w) t2478 (by decide) s2583
    have s2664 := gSg.rawat g2603 rf2563 (fun w => by cases w) t2478 (by decide) s2584
    have s2665 := gSg.rawat g2603 rf2563 (fun w => by cases w) t2478 (by decide) s2585
    have s2666 := gSg.rawat g2603 rf2563 (fun w => by cases w) t2478 (by decide) s2586
    have s2667 := gSg.rawat g2603 rf2563 (fun w => by cases w) t2478 (by decide) s2587
    have s2668 := gSg.rawat g2603 rf2563 (fun w => by cases w) t2478 (by decide) s2588
    have s2669 := gSg.rawat g2603 rf2563 (fun w => by cases w) t2478 (by decide) s2589
    have s2670 := gSg.rawat g2603 rf2563 (fun w => by cases w) t2478 (by decide) s2590
    have s2671 := gSg.rawat g2603 rf2563 (fun w => by cases w) t2478 (by decide) s2591
    have s2672 := gSg.rawat g2603 rf2563 (fun w => by cases w) t2478 (by decide) s2592
    have s2673 := gSg.rawat g2603 rf2563 (fun w => by cases w) t2478 (by decide) s2593
    have s2674 := gSg.rawat g2603 rf2563 (fun w => by cases w) t2478 (by decide) s2594
    have s2675 := gSg.rawat g2603 rf2563 (fun w => by cases w) t2478 (by decide) s2595
    have s2676 := gSg.rawat g2603 rf2563 (fun w => by cases w) t2478 (by decide) s2596
    have s2677 := gSg.rawat g2603 rf2563 (fun w => by cases w) t2478 (by decide) s2597
    have s2678 := gSg.rawat g2603 rf2563 (fun w => by cases w) t2478 (by decide) s2598
    have s2679 := gSg.rawat g2603 rf2563 (fun w => by cases w) t2478 (by decide) s2599
    have s2680 := gSg.rawat g2603 rf2563 (fun w => by cases w) t2478 (by decide) eh2554
    have pr2681 : gNo [1, 38, 39, 40, 41, 42] ty2600 := gNo.gr g2603 (by decide +kernel) (gNo.sub (by decide +kernel) pr2547)
    have pr2682 := gRn.gr g2603 sS2562.1 rfl (by decide) (by decide) pr2557
    have pr2683 := gRn.gr g2603 sS2562.1 rfl (by decide) (by decide) pr2558
    have pr2684 := gRn.gr g2603 sS2562.1 rfl (by decide) (by decide) pr2559
    have pr2685 := gRn.gr g2603 sS2562.1 rfl (by decide) (by decide) pr2560
    have pr2686 := gRn.gr g2603 sS2562.1 rfl (by decide) (by decide) pr2561
    have sS2687 : gSs rT 1027 ty2600 [8999, 10999, 31999] h2601 h2601 := gSs.rf g2603.1
    clear G2556 dd2565 pr2547 pr2557 pr2558 pr2559 pr2560 pr2561 rf2563 rf2564 s2566 s2567 s2568 s2569 s2570 s2571 s2572 s2573 s2574 s2575 s2576 s2577 s2578 s2579 s2580 s2581 s2582 s2583 s2584 s2585 s2586 s2587 s2588 s2589 s2590 s2591 s2592 s2593 s2594 s2595 s2596 s2597 s2598 s2599 sS2562 t2478 t2479 t2480 t2481 t2482 t2483 t2484 t2485 t2486 t2487 t2488 t2489 t2490 t2491 t2492 t2493 t2494 t2495 t2496 t2497 t2498 t2499 t2500 t2501 t2502 t2503 t2504 t2505 t2506 t2507 t2508 t2509 t2510 t2511 t2512 uq2472
    refine gs_rput rfl (by decide) rfl sS2687.1 t2610 nx rw2606.2.1 rf2607 rfl (Or.inr rfl) (fun h2688 g2689 nh2688 mh2688 kh2688 zh2688 eh2688 fh2688 => ?_)
    have G2690 : gSg [1, 2, 3, 4, 5, 6, 7, 8, 9, 10, 11, 12, 13, 14, 15, 16, 17, 18, 19, 20, 21, 22, 23, 24, 25, 26, 27, 28, 29, 30, 31, 32, 33, 34, 35, 36, 37, 38, 39, 40, 41, 42, 200] [x] [8999, 10999, 31999] ty h ty2600 h2688 := gSg.tr (gSg.ss G2605 sS2687 (by decide)) g2689 (by decide) (by decide) (fun x hx => Or.inr hx)
    have pr2691 := gRn.gr g2689 sS2687.1 rfl (by decide) (by decide) pr2682
    have pr2692 := gRn.gr g2689 sS2687.1 rfl (by decide) (by decide) pr2683
    have pr2693 := gRn.gr g2689 sS2687.1 rfl (by decide) (by decide) pr2684
    have pr2694 := gRn.gr g2689 sS2687.1 rfl (by decide) (by decide) pr2685
    have pr2695 := gRn.gr g2689 sS2687.1 rfl (by decide) (by decide) pr2686
    have sS2696 : gSs rT 1027 ty2600 [8999, 10999, 31999] h2688 h2688 := gSs.rf g2689.1
    have rf2697 := Nat.lt_of_lt_of_eq rw2606.2.1 nh2688.symm
    have rf2698 := zh2688.trans rf2608
    have dd2699 : ∀ k, ¬ k ∈ ([69, 68, 66, 65, 63, 60, 58, 57, 56, 55, 54, 49, 40, 38, 37, 36, 35, 34, 33, 32, 31, 30, 29, 28, 27, 26, 25, 15, 14, 13, 12, 11, 10, 9, 4, 2] : List Nat) → h2688.2.2.2.2 x k = defaultValue (gGG.2.1 12 k) := raw_dp fh2688 dd2609
    have s2700 := (fh2688 2 (by decide)).trans s2646
    have s2701 := (fh2688 4 (by decide)).trans s2647
    have s2702 := (fh2688 9 (by decide)).trans s2648
    have s2703 := (fh2688 10 (by decide)).trans s2649
    have s2704 := (fh2688 11 (by decide)).trans s2650
    have s2705 := (fh2688 12 (by decide)).trans s2651
    have s2706 := (fh2688 13 (by decide)).trans s2652
    have s2707 := (fh2688 14 (by decide)).trans s2653
    have s2708 := (fh2688 15 (by decide)).trans s2654
    have s2709 := (fh2688 25 (by decide)).trans s2655
    have s2710 := (fh2688 26 (by decide)).trans s2656
    have s2711 := (fh2688 27 (by decide)).trans s2657
    have s2712 := (fh2688 28 (by decide)).trans s2658
    have s2713 := (fh2688 29 (by decide)).trans s2659
    have s2714 := (fh2688 30 (by decide)).trans s2660
    have s2715 := (fh2688 31 (by decide)).trans s2661
    have s2716 := (fh2688 32 (by decide)).trans s2662
    have s2717 := (fh2688 33 (by decide)).trans s2663
    have s2718 := (fh2688 34 (by decide)).trans s2664
    have s2719 := (fh2688 35 (by decide)).trans s2665
    have s2720 := (fh2688 36 (by decide)).trans s2666
    have s2721 := (fh2688 37 (by decide)).trans s2667
    have s2722 := (fh2688 38 (by decide)).trans s2668
    have s2723 := (fh2688 40 (by decide)).trans s2669
    have s2724 := (fh2688 49 (by decide)).trans s2670
    have s2725 := (fh2688 54 (by decide)).trans s2671
    have s2726 := (fh2688 55 (by decide)).trans s2672
    have s2727 := (fh2688 56 (by decide)).trans s2673
    have s2728 := (fh2688 57 (by decide)).trans s2674
    have s2729 := (fh2688 58 (by decide)).trans s2675
    have s2730 := (fh2688 60 (by decide)).trans s2676
    have s2731 := (fh2688 63 (by decide)).trans s2677
    have s2732 := (fh2688 65 (by decide)).trans s2678
    have s2733 := (fh2688 66 (by decide)).trans s2679
    have s2734 := (fh2688 68 (by decide)).trans s2680
    clear G2605 dd2609 pr2682 pr2683 pr2684 pr2685 pr2686 rf2607 rf2608 rw2606 s2646 s2647 s2648 s2649 s2650 s2651 s2652 s2653 s2654 s2655 s2656 s2657 s2658 s2659 s2660 s2661 s2662 s2663 s2664 s2665 s2666 s2667 s2668 s2669 s2670 s2671 s2672 s2673 s2674 s2675 s2676 s2677 s2678 s2679 s2680 sS2687
    refine gz_s 2 (pc' := 296) (L' := [some (.ref x), none, none, none, none]) (S' := [.int (zi 514), .ref x]) rfl ?_
    refine gs_newr 38 rfl (by decide) rfl sS2696.1 (Nat.le_of_lt (Nat.lt_of_le_of_lt (gJ.cell sS2696.1 t2611 rfl).1 (gJ.cell sS2696.1 t2611 rfl).2.1)) (by omega) (by omega) rfl rfl (by show (514 : Int) ≤ _; omega) (by show _ ≤ (514 : Int); omega) (fun _ _ => gos_i (by decide) (by decide)) (fun ty2735 h2736 c2737 g2738 tc2737 lc2737 nc2737 mc2737 ec2737 dc2737 uc2737 => ?_)
    have gac2737 : h.1 ≤ c2737 := by have h8 := G2690.2.1; have h9 := sS2696.2.1; omega
    have uq2739 := uc2737 uq2604 (Or.inr (gNo.sub (by decide +kernel) pr2681))
    have G2740 : gSg [1, 2, 3, 4, 5, 6, 7, 8, 9, 10, 11, 12, 13, 14, 15, 16, 17, 18, 19, 20, 21, 22, 23, 24, 25, 26, 27, 28, 29, 30, 31, 32, 33, 34, 35, 36, 37, 38, 39, 40, 41, 42, 200] [x] [8999, 10999, 31999] ty h ty2735 h2736 := gSg.tr (gSg.ss G2690 sS2696 (by decide)) g2738 (by decide) (by decide) (fun x hx => by cases hx)
    have rw2741 := gSg.raw g2738 rf2697 (fun w => by cases w)
    have rf2742 := (rw2741.2.2.1.trans kh2688)
    have rf2743 := (rw2741.2.2.2.trans rf2698)
    have dd2744 := gSg.rawd (ci := 12) (ps := [69, 68, 66, 65, 63, 60, 58, 57, 56, 55, 54, 49, 40, 38, 37, 36, 35, 34, 33, 32, 31, 30, 29, 28, 27, 26, 25, 15, 14, 13, 12, 11, 10, 9, 4, 2]) g2738 rf2697 (fun w => by cases w) t2610 (by decide) dd2699
    have t2745 : ty2735 x = 200 := rw2741.1.trans t2610
    have t2746 : ty2735 c3 = 2 := gSg.typ g2738 sS2696.1 t2611 rTk_2
    have t2747 : ty2735 c23 = 3 := gSg.typ g2738 sS2696.1 t2612 rTk_3
    have t2748 : ty2735 c46 = 4 := gSg.typ g2738 sS2696.1 t2613 rTk_4
    have t2749 : ty2735 c72 = 5 := gSg.typ g2738 sS2696.1 t2614 rTk_5
    have t2750 : ty2735 c101 = 6 := gSg.typ g2738 sS2696.1 t2615 rTk_6
    have t2751 : ty2735 c133 = 7 := gSg.typ g2738 sS2696.1 t2616 rTk_7
    have t2752 : ty2735 c171 = 8 := gSg.typ g2738 sS2696.1 t2617 rTk_8
    have t2753 : ty2735 c209 = 9 := gSg.typ g2738 sS2696.1 t2618 rTk_9
    have t2754 : ty2735 c250 = 10 := gSg.typ g2738 sS2696.1 t2619 rTk_10
    have t2755 : ty2735 c294 = 11 := gSg.typ g2738 sS2696.1 t2620 rTk_11
    have t2756 : ty2735 c341 = 12 := gSg.typ g2738 sS2696.1 t2621 rTk_12
    have t2757 : ty2735 c391 = 13 := gSg.typ g2738 sS2696.1 t2622 rTk_13
    have t2758 : ty2735 c447 = 14 := gSg.typ g2738 sS2696.1 t2623 rTk_14
    have t2759 : ty2735 c503 = 15 := gSg.typ g2738 sS2696.1 t2624 rTk_15
    have t2760 : ty2735 c562 = 16 := gSg.typ g2738 sS2696.1 t2625 rTk_16
    have t2761 : ty2735 c624 = 17 := gSg.typ g2738 sS2696.1 t2626 rTk_17
    have t2762 : ty2735 c689 = 18 := gSg.typ g2738 sS2696.1 t2627 rTk_18
    have t2763 : ty2735 c760 = 19 := gSg.typ g2738 sS2696.1 t2628 rTk_19
    have t2764 : ty2735 c831 = 20 := gSg.typ g2738 sS2696.1 t2629 rTk_20
    have t2765 : ty2735 c905 = 21 := gSg.typ g2738 sS2696.1 t2630 rTk_21
    have t2766 : ty2735 c982 = 22 := gSg.typ g2738 sS2696.1 t2631 rTk_22
    have t2767 : ty2735 c1065 = 23 := gSg.typ g2738 sS2696.1 t2632 rTk_23
    have t2768 : ty2735 c1148 = 24 := gSg.typ g2738 sS2696.1 t2633 rTk_24
    have t2769 : ty2735 c1234 = 25 := gSg.typ g2738 sS2696.1 t2634 rTk_25
    have t2770 : ty2735 c1323 = 26 := gSg.typ g2738 sS2696.1 t2635 rTk_26
    have t2771 : ty2735 c1420 = 27 := gSg.typ g2738 sS2696.1 t2636 rTk_27
    have t2772 : ty2735 c1519 = 28 := gSg.typ g2738 sS2696.1 t2637 rTk_28
    have t2773 : ty2735 c1623 = 29 := gSg.typ g2738 sS2696.1 t2638 rTk_29
    have t2774 : ty2735 c1735 = 30 := gSg.typ g2738 sS2696.1 t2639 rTk_30
    have t2775 : ty2735 c1849 = 31 := gSg.typ g2738 sS2696.1 t2640 rTk_31
    have t2776 : ty2735 c1966 = 32 := gSg.typ g2738 sS2696.1 t2641 rTk_32
    have t2777 : ty2735 c2089 = 33 := gSg.typ g2738 sS2696.1 t2642 rTk_33
    have t2778 : ty2735 c2212 = 34 := gSg.typ g2738 sS2696.1 t2643 rTk_34
    have t2779 : ty2735 c2338 = 35 := gSg.typ g2738 sS2696.1 t2644 rTk_35
    have t2780 : ty2735 c2470 = 36 := gSg.typ g2738 sS2696.1 t2645 rTk_36
    have t2781 : ty2735 c2602 = 37 := gSg.typ g2738 sS2696.1 tc2602 rTk_37
    have s2782 := gSg.rawat g2738 rf2697 (fun w => by cases w) t2610 (by decide) s2700
    have s2783 := gSg.rawat g2738 rf2697 (fun w => by cases w) t2610 (by decide) s2701
    have s2784 := gSg.rawat g2738 rf2697 (fun w => by cases w) t2610 (by decide) s2702
    have s2785 := gSg.rawat g2738 rf2697 (fun w => by cases w) t2610 (by decide) s2703
    have s2786 := gSg.rawat g2738 rf2697 (fun w => by cases w) t2610 (by decide) s2704
    have s2787 := gSg.rawat g2738 rf2697 (fun w => by cases w) t2610 (by decide) s2705
    have s2788 := gSg.rawat g2738 rf2697 (fun w => by cases w) t2610 (by decide) s2706
    have s2789 := gSg.rawat g2738 rf2697 (fun w => by cases w) t2610 (by decide) s2707
    have s2790 := gSg.rawat g2738 rf2697 (fun w => by cases w) t2610 (by decide) s2708
    have s2791 := gSg.rawat g2738 rf2697 (fun w => by cases w) t2610 (by decide) s2709
    have s2792 := gSg.rawat g2738 rf2697 (fun w => by cases w) t2610 (by decide) s2710
    have s2793 := gSg.rawat g2738 rf2697 (fun w => by cases w) t2610 (by decide) s2711
    have s2794 := gSg.rawat g2738 rf2697 (fun w => by cases w) t2610 (by decide) s2712
    have s2795 := gSg.rawat g2738 rf2697 (fun w => by cases w) t2610 (by decide) s2713
    have s2796 := gSg.rawat g2738 rf2697 (fun w => by cases w) t2610 (by decide) s2714
    have s2797 := gSg.rawat g2738 rf2697 (fun w => by cases w) t2610 (by decide) s2715
    have s2798 := gSg.rawat g2738 rf2697 (fun w => by cases w) t2610 (by decide) s2716
    have s2799 := gSg.rawat g2738 rf2697 (fun w => by cases w) t2610 (by decide) s2717
    have s2800 := gSg.rawat g2738 rf2697 (fun w => by cases w) t2610 (by decide) s2718
    have s2801 := gSg.rawat g2738 rf2697 (fun w => by cases w) t2610 (by decide) s2719
    have s2802 := gSg.rawat g2738 rf2697 (fun w => by cases w) t2610 (by decide) s2720
    have s2803 := gSg.rawat g2738 rf2697 (fun w => by cases w) t2610 (by decide) s2721
    have s2804 := gSg.rawat g2738 rf2697 (fun w => by cases w) t2610 (by decide) s2722
    have s2805 := gSg.rawat g2738 rf2697 (fun w => by cases w) t2610 (by decide) s2723
    have s2806 := gSg.rawat g2738 rf2697 (fun w => by cases w) t2610 (by decide) s2724
    have s2807 := gSg.rawat g2738 rf2697 (fun w => by cases w) t2610 (by decide) s2725
    have s2808 := gSg.rawat g2738 rf2697 (fun w => by cases w) t2610 (by decide) s2726
    have s2809 := gSg.rawat g2738 rf2697 (fun w => by cases w) t2610 (by decide) s2727
    have s2810 := gSg.rawat g2738 rf2697 (fun w => by cases w) t2610 (by decide) s2728
    have s2811 := gSg.rawat g2738 rf2697 (fun w => by cases w) t2610 (by decide) s2729
    have s2812 := gSg.rawat g2738 rf2697 (fun w => by cases w) t2610 (by decide) s2730
    have s2813 := gSg.rawat g2738 rf2697 (fun w => by cases w) t2610 (by decide) s2731
    have s2814 := gSg.rawat g2738 rf2697 (fun w => by cases w) t2610 (by decide) s2732
    have s2815 := gSg.rawat g2738 rf2697 (fun w => by cases w) t2610 (by decide) s2733
    have s2816 := gSg.rawat g2738 rf2697 (fun w => by cases w) t2610 (by decide) s2734
    have s2817 := gSg.rawat g2738 rf2697 (fun w => by cases w) t2610 (by decide) eh2688
    have pr2818 : gNo [1, 39, 40, 41, 42] ty2735 := gNo.gr g2738 (by decide +kernel) (gNo.sub (by decide +kernel) pr2681)
    have pr2819 := gRn.gr g2738 sS2696.1 rfl (by decide) (by decide) pr2691
    have pr2820 := gRn.gr g2738 sS2696.1 rfl (by decide) (by decide) pr2692
    have pr2821 := gRn.gr g2738 sS2696.1 rfl (by decide) (by decide) pr2693
    have pr2822 := gRn.gr g2738 sS2696.1 rfl (by decide) (by decide) pr2694
    have pr2823 := gRn.gr g2738 sS2696.1 rfl (by decide) (by decide) pr2695
    have sS2824 : gSs rT 1027 ty2735 [8999, 10999, 31999] h2736 h2736 := gSs.rf g2738.1
    clear G2690 dd2699 pr2681 pr2691 pr2692 pr2693 pr2694 pr2695 rf2697 rf2698 s2700 s2701 s2702 s2703 s2704 s2705 s2706 s2707 s2708 s2709 s2710 s2711 s2712 s2713 s2714 s2715 s2716 s2717 s2718 s2719 s2720 s2721 s2722 s2723 s2724 s2725 s2726 s2727 s2728 s2729 s2730 s2731 s2732 s2733 s2734 sS2696 t2610 t2611 t2612 t2613 t2614 t2615 t2616 t2617 t2618 t2619 t2620 t2621 t2622 t2623 t2624 t2625 t2626 t2627 t2628 t2629 t2630 t2631 t2632 t2633 t2634 t2635 t2636 t2637 t2638 t2639 t2640 t2641 t2642 t2643 t2644 t2645 uq2604
    refine gs_rput rfl (by decide) rfl sS2824.1 t2745 nx rw2741.2.1 rf2742 rfl (Or.inr rfl) (fun h2825 g2826 nh2825 mh2825 kh2825 zh2825 eh2825 fh2825 => ?_)
    have G2827 : gSg [1, 2, 3, 4, 5, 6, 7, 8, 9, 10, 11, 12, 13, 14, 15, 16, 17, 18, 19, 20, 21, 22, 23, 24, 25, 26, 27, 28, 29, 30, 31, 32, 33, 34, 35, 36, 37, 38, 39, 40, 41, 42, 200] [x] [8999, 10999, 31999] ty h ty2735 h2825 := gSg.tr (gSg.ss G2740 sS2824 (by decide)) g2826 (by decide) (by decide) (fun x hx => Or.inr hx)
    have pr2828 := gRn.gr g2826 sS2824.1 rfl (by decide) (by decide) pr2819
    have pr2829 := gRn.gr g2826 sS2824.1 rfl (by decide) (by decide) pr2820
    have pr2830 := gRn.gr g2826 sS2824.1 rfl (by decide) (by decide) pr2821
    have pr2831 := gRn.gr g2826 sS2824.1 rfl (by decide) (by decide) pr2822
    have pr2832 := gRn.gr g2826 sS2824.1 rfl (by decide) (by decide) pr2823
    have sS2833 : gSs rT 1027 ty2735 [8999, 10999, 31999] h2825 h2825 := gSs.rf g2826.1
    have rf2834 := Nat.lt_of_lt_of_eq rw2741.2.1 nh2825.symm
    have rf2835 := zh2825.trans rf2743
    have dd2836 : ∀ k, ¬ k ∈ ([70, 69, 68, 66, 65, 63, 60, 58, 57, 56, 55, 54, 49, 40, 38, 37, 36, 35, 34, 33, 32, 31, 30, 29, 28, 27, 26, 25, 15, 14, 13, 12, 11, 10, 9, 4, 2] : List Nat) → h2825.2.2.2.2 x k = defaultValue (gGG.2.1 12 k) := raw_dp fh2825 dd2744
    have s2837 := (fh2825 2 (by decide)).trans s2782
    have s2838 := (fh2825 4 (by decide)).trans s2783
    have s2839 := (fh2825 9 (by decide)).trans s2784
    have s2840 := (fh2825 10 (by decide)).trans s2785
    have s2841 := (fh2825 11 (by decide)).trans s2786
    have s2842 := (fh2825 12 (by decide)).trans s2787
    have s2843 := (fh2825 13 (by decide)).trans s2788
    have s2844 := (fh2825 14 (by decide)).trans s2789
    have s2845 := (fh2825 15 (by decide)).trans s2790
    have s2846 := (fh2825 25 (by decide)).trans s2791
    have s2847 := (fh2825 26 (by decide)).trans s2792
    have s2848 := (fh2825 27 (by decide)).trans s2793
    have s2849 := (fh2825 28 (by decide)).trans s2794
    have s2850 := (fh2825 29 (by decide)).trans s2795
    have s2851 := (fh2825 30 (by decide)).trans s2796
    have s2852 := (fh2825 31 (by decide)).trans s2797
    have s2853 := (fh2825 32 (by decide)).trans s2798
    have s2854 := (fh2825 33 (by decide)).trans s2799
    have s2855 := (fh2825 34 (by decide)).trans s2800
    have s2856 := (fh2825 35 (by decide)).trans s2801
    have s2857 := (fh2825 36 (by decide)).trans s2802
    have s2858 := (fh2825 37 (by decide)).trans s2803
    have s2859 := (fh2825 38 (by decide)).trans s2804
    have s2860 := (fh2825 40 (by decide)).trans s2805
    have s2861 := (fh2825 49 (by decide)).trans s2806
    have s2862 := (fh2825 54 (by decide)).trans s2807
    have s2863 := (fh2825 55 (by decide)).trans s2808
    have s2864 := (fh2825 56 (by decide)).trans s2809
    have s2865 := (fh2825 57 (by decide)).trans s2810
    have s2866 := (fh2825 58 (by decide)).trans s2811
    have s2867 := (fh2825 60 (by decide)).trans s2812
    have s2868 := (fh2825 63 (by decide)).trans s2813
    have s2869 := (fh2825 65 (by decide)).trans s2814
    have s2870 := (fh2825 66 (by decide)).trans s2815
    have s2871 := (fh2825 68 (by decide)).trans s2816
    have s2872 := (fh2825 69 (by decide)).trans s2817
    clear G2740 dd2744 pr2819 pr2820 pr2821 pr2822 pr2823 rf2742 rf2743 rw2741 s2782 s2783 s2784 s2785 s2786 s2787 s2788 s2789 s2790 s2791 s2792 s2793 s2794 s2795 s2796 s2797 s2798 s2799 s2800 s2801 s2802 s2803 s2804 s2805 s2806 s2807 s2808 s2809 s2810 s2811 s2812 s2813 s2814 s2815 s2816 s2817 sS2824
    have lp2873 := cmlp2873 d hJ x nx c3 c23 c46 c72 c101 c133 c171 c209 c250 c294 c341 c391 c447 c503 c562 c624 c689 c760 c831 c905 c982 c1065 c1148 c1234 c1323 c1420 c1519 c1623 c1735 c1849 c1966 c2089 c2212 c2338 c2470 c2602 c2737
    have G3750 : gSg [1, 2, 3, 4, 5, 6, 7, 8, 9, 10, 11, 12, 13, 14, 15, 16, 17, 18, 19, 20, 21, 22, 23, 24, 25, 26, 27, 28, 29, 30, 31, 32, 33, 34, 35, 36, 37, 38, 39, 40, 41, 42, 200] [x] [8999, 10999, 31999] ty h ty2735 h2825 := gSg.ss G2827 sS2833 (by decide)
    exact gz_wk (lp2873 _ ty2735 h2825  (Nat.lt_succ_self _) G3750 uq2739 t2745 t2746 t2747 t2748 t2749 t2750 t2751 t2752 t2753 t2754 t2755 t2756 t2757 t2758 t2759 t2760 t2761 t2762 t2763 t2764 t2765 t2766 t2767 t2768 t2769 t2770 t2771 t2772 t2773 t2774 t2775 t2776 t2777 t2778 t2779 t2780 t2781 tc2737 (by omega) (by omega) s2837 s2838 s2839 s2840 s2841 s2842 s2843 s2844 s2845 s2846 s2847 s2848 s2849 s2850 s2851 s2852 s2853 s2854 s2855 s2856 s2857 s2858 s2859 s2860 s2861 s2862 s2863 s2864 s2865 s2866 s2867 s2868 s2869 s2870 s2871 s2872 eh2825 pr2818 pr2828 pr2829 pr2830 pr2831 pr2832 rf2834 kh2825 rf2835 dd2836) (gLw.s (gLw.n (gLw.n (gLw.n (gLw.n gLw.z)))))
set_option maxRecDepth 20000 in
set_option maxHeartbeats 4000000 in
theorem cmlp2084 (d : Nat) {ty : Nat → Nat} {h : gH} (hJ : gJ rT 1027 ty h) (x : Nat) (nx : 1027 ≤ x) (c3 c23 c46 c72 c101 c133 c171 c209 c250 c294 c341 c391 c447 c503 c562 c624 c689 c760 c831 c905 c982 c1065 c1148 c1234 c1323 c1420 c1519 c1623 c1735 c1849 c1966 : Nat) : ∀ (fu : Nat) (ty2086 : Nat → Nat) (h2085 : gH), ((1 : Int)).toNat < fu → gSg [1, 2, 3, 4, 5, 6, 7, 8, 9, 10, 11, 12, 13, 14, 15, 16, 17, 18, 19, 20, 21, 22, 23, 24, 25, 26, 27, 28, 29, 30, 31, 32, 33, 34, 35, 36, 37, 38, 39, 40, 41, 42, 200] [x] [8999, 10999, 31999] ty h ty2086 h2085 → gUq ty2086 → ty2086 x = 200 → ty2086 c3 = 2 → ty2086 c23 = 3 → ty2086 c46 = 4 → ty2086 c72 = 5 → ty2086 c101 = 6 → ty2086 c133 = 7 → ty2086 c171 = 8 → ty2086 c209 = 9 → ty2086 c250 = 10 → ty2086 c294 = 11 → ty2086 c341 = 12 → ty2086 c391 = 13 → ty2086 c447 = 14 → ty2086 c503 = 15 → ty2086 c562 = 16 → ty2086 c624 = 17 → ty2086 c689 = 18 → ty2086 c760 = 19 → ty2086 c831 = 20 → ty2086 c905 = 21 → ty2086 c982 = 22 → ty2086 c1065 = 23 → ty2086 c1148 = 24 → ty2086 c1234 = 25 → ty2086 c1323 = 26 → ty2086 c1420 = 27 → ty2086 c1519 = 28 → ty2086 c1623 = 29 → ty2086 c1735 = 30 → ty2086 c1849 = 31 → ty2086 c1966 = 32 → ((h2085.1 : Int) = h.1 + 31) → ((h2085.2.1 : Int) = h.2.1 + 84399) → h2085.2.2.2.2 x 2 = .ref c3 → h2085.2.2.2.2 x 4 = .ref c23 → h2085.2.2.2.2 x 9 = .ref c46 → h2085.2.2.2.2 x 10 = .ref c72 → h2085.2.2.2.2 x 11 = .ref c101 → h2085.2.2.2.2 x 12 = .ref c133 → h2085.2.2.2.2 x 13 = .ref c171 → h2085.2.2.2.2 x 14 = .ref c209 → h2085.2.2.2.2 x 15 = .ref c250 → h2085.2.2.2.2 x 25 = .ref c294 → h2085.2.2.2.2 x 26 = .ref c341 → h2085.2.2.2.2 x 27 = .ref c391 → h2085.2.2.2.2 x 28 = .ref c447 → h2085.2.2.2.2 x 29 = .ref c503 → h2085.2.2.2.2 x 30 = .ref c562 → h2085.2.2.2.2 x 31 = .ref c624 → h2085.2.2.2.2 x 32 = .ref c689 → h2085.2.2.2.2 x 33 = .ref c760 → h2085.2.2.2.2 x 34 = .ref c831 → h2085.2.2.2.2 x 35 = .ref c905 → h2085.2.2.2.2 x 36 = .ref c982 → h2085.2.2.2.2 x 37 = .ref c1065 → h2085.2.2.2.2 x 38 = .ref c1148 → h2085.2.2.2.2 x 40 = .ref c1234 → h2085.2.2.2.2 x 49 = .ref c1323 → h2085.2.2.2.2 x 54 = .ref c1420 → h2085.2.2.2.2 x 55 = .ref c1519 → h2085.2.2.2.2 x 56 = .ref c1623 → h2085.2.2.2.2 x 57 = .ref c1735 → h2085.2.2.2.2 x 58 = .ref c1849 → h2085.2.2.2.2 x 60 = .ref c1966 → gNo [1, 33, 34, 35, 36, 37, 38, 39, 40, 41, 42] ty2086 → gRn 1024 ty2086 26 (fun _ => 0) h2085 → gRn 10 ty2086 27 (fun _ => 0) h2085 → gRn 10 ty2086 28 (fun _ => 0) h2085 → gRn 10 ty2086 29 (fun _ => 0) h2085 → gRn 10 ty2086 30 (fun _ => 0) h2085 → x < h2085.1 → h2085.2.2.1 x = some (.inr 12) → h2085.2.2.2.1 x = 0 → (∀ k, ¬ k ∈ ([60, 58, 57, 56, 55, 54, 49, 40, 38, 37, 36, 35, 34, 33, 32, 31, 30, 29, 28, 27, 26, 25, 15, 14, 13, 12, 11, 10, 9, 4, 2] : List Nat) → h2085.2.2.2.2 x k = defaultValue (gGG.2.1 12 k)) → gz gPP gGG gcn (d + 1) gt130 249 [some (.ref x), none, none, none, none] [] h2085 (fun q _ => ∃ ty9 : Nat → Nat, gSg [1, 2, 3, 4, 5, 6, 7, 8, 9, 10, 11, 12, 13, 14, 15, 16, 17, 18, 19, 20, 21, 22, 23, 24, 25, 26, 27, 28, 29, 30, 31, 32, 33, 34, 35, 36, 37, 38, 39, 40, 41, 42, 200] [x] [8999, 10999, 31999] ty h ty9 q.2.2 ∧ ∃ ip n1 cw ch iv1 wr1 : Int, ty9 x = 1 ∧ gfin gt130 q.1 q.2.1 = some none ∧ q.2.2.2.2.2.2 x 16 = .int (zi ip) ∧ 0 ≤ ip ∧ ip ≤ 1 ∧ q.2.2.2.2.2.2 x 53 = .int (zi n1) ∧ 0 ≤ n1 ∧ n1 ≤ 10 ∧ q.2.2.2.2.2.2 x 50 = .int (zi cw) ∧ 0 ≤ cw ∧ cw ≤ 32 ∧ q.2.2.2.2.2.2 x 51 = .int (zi ch) ∧ 0 ≤ ch ∧ ch ≤ 32 ∧ q.2.2.2.2.2.2 x 52 = .int (zi iv1) ∧ 0 ≤ iv1 ∧ iv1 ≤ 100 ∧ q.2.2.2.2.2.2 x 59 = .int (zi wr1) ∧ 0 ≤ wr1 ∧ wr1 ≤ 60000 ∧ (ip = 0) ∧ (n1 = 0) ∧ (cw = 0) ∧ (ch = 0) ∧ (iv1 = 0) ∧ (wr1 = 0) ∧ ((q.2.2.1 : Int) = h.1 + 41) ∧ ((q.2.2.2.1 : Int) = h.2.1 + 88652) ∧ (gTs ty9 0 q.2.2) ∧ (gMw ty9 (((fun _ => 16, fun _ => 0, fun _ => 0, fun _ => 0, fun _ => 0, fun _ => 0, fun _ => -1), (0, 0, 0, fun _ => 0)) : gSS) q.2.2) ∧ (gRn 64 ty9 10 (fun i9 => eZz ((i9 : Nat) : Int)) q.2.2) ∧ gUq ty9) := by
  intro fu
  induction fu with
  | zero => intro ty2086 h2085  hm; exact absurd hm (Nat.not_lt_zero _)
  | succ fu ihlp2084 =>
    intro ty2086 h2085  lp2084m lp2084G lp2084u lp2084c0 lp2084c1 lp2084c2 lp2084c3 lp2084c4 lp2084c5 lp2084c6 lp2084c7 lp2084c8 lp2084c9 lp2084c10 lp2084c11 lp2084c12 lp2084c13 lp2084c14 lp2084c15 lp2084c16 lp2084c17 lp2084c18 lp2084c19 lp2084c20 lp2084c21 lp2084c22 lp2084c23 lp2084c24 lp2084c25 lp2084c26 lp2084c27 lp2084c28 lp2084c29 lp2084c30 lp2084c31 lp2084f0 lp2084f1 lp2084k0 lp2084k1 lp2084k2 lp2084k3 lp2084k4 lp2084k5 lp2084k6 lp2084k7 lp2084k8 lp2084k9 lp2084k10 lp2084k11 lp2084k12 lp2084k13 lp2084k14 lp2084k15 lp2084k16 lp2084k17 lp2084k18 lp2084k19 lp2084k20 lp2084k21 lp2084k22 lp2084k23 lp2084k24 lp2084k25 lp2084k26 lp2084k27 lp2084k28 lp2084k29 lp2084k30 lp2084k31 lp2084k32 lp2084k33 lp2084k34 lp2084k35 lp2084k36 lp2084w0 lp2084w1 lp2084w2 lp2084w3
    have sh2085 : gSs rT 1027 ty2086 [8999, 10999, 31999] h2085 h2085 := gSs.rf lp2084G.1
    refine gz_s 2 (pc' := 253) (L' := [some (.ref x), none, none, none, none]) (S' := [.int (zi 1024), .ref x]) rfl ?_
    refine gs_newr 33 rfl (by decide) rfl sh2085.1 (Nat.le_of_lt (Nat.lt_of_le_of_lt (gJ.cell sh2085.1 lp2084c1 rfl).1 (gJ.cell sh2085.1 lp2084c1 rfl).2.1)) (by omega) (by omega) rfl rfl (by show (1024 : Int) ≤ _; omega) (by show _ ≤ (1024 : Int); omega) (fun _ _ => gos_i (by decide) (by decide)) (fun ty2087 h2088 c2089 g2090 tc2089 lc2089 nc2089 mc2089 ec2089 dc2089 uc2089 => ?_)
    have gac2089 : h.1 ≤ c2089 := by have h8 := lp2084G.2.1; have h9 := sh2085.2.1; omega
    have uq2091 := uc2089 lp2084u (Or.inr (gNo.sub (by decide +kernel) lp2084k31))
    have G2092 : gSg [1, 2, 3, 4, 5, 6, 7, 8, 9, 10, 11, 12, 13, 14, 15, 16, 17, 18, 19, 20, 21, 22, 23, 24, 25, 26, 27, 28, 29, 30, 31, 32, 33, 34, 35, 36, 37, 38, 39, 40, 41, 42, 200] [x] [8999, 10999, 31999] ty h ty2087 h2088 := gSg.tr (gSg.ss lp2084G sh2085 (by decide)) g2090 (by decide) (by decide) (fun x hx => by cases hx)
    have rw2093 := gSg.raw g2090 lp2084w0 (fun w => by cases w)
    have rf2094 := (rw2093.2.2.1.trans lp2084w1)
    have rf2095 := (rw2093.2.2.2.trans lp2084w2)
    have dd2096 := gSg.rawd (ci := 12) (ps := [60, 58, 57, 56, 55, 54, 49, 40, 38, 37, 36, 35, 34, 33, 32, 31, 30, 29, 28, 27, 26, 25, 15, 14, 13, 12, 11, 10, 9, 4, 2]) g2090 lp2084w0 (fun w => by cases w) lp2084c0 (by decide) lp2084w3
    have t2097 : ty2087 x = 200 := rw2093.1.trans lp2084c0
    have t2098 : ty2087 c3 = 2 := gSg.typ g2090 sh2085.1 lp2084c1 rTk_2
    have t2099 : ty2087 c23 = 3 := gSg.typ g2090 sh2085.1 lp2084c2 rTk_3
    have t2100 : ty2087 c46 = 4 := gSg.typ g2090 sh2085.1 lp2084c3 rTk_4
    have t2101 : ty2087 c72 = 5 := gSg.typ g2090 sh2085.1 lp2084c4 rTk_5
    have t2102 : ty2087 c101 = 6 := gSg.typ g2090 sh2085.1 lp2084c5 rTk_6
    have t2103 : ty2087 c133 = 7 := gSg.typ g2090 sh2085.1 lp2084c6 rTk_7
    have t2104 : ty2087 c171 = 8 := gSg.typ g2090 sh2085.1 lp2084c7 rTk_8
    have t2105 : ty2087 c209 = 9 := gSg.typ g2090 sh2085.1 lp2084c8 rTk_9
    have t2106 : ty2087 c250 = 10 := gSg.typ g2090 sh2085.1 lp2084c9 rTk_10
    have t2107 : ty2087 c294 = 11 := gSg.typ g2090 sh2085.1 lp2084c10 rTk_11
    have t2108 : ty2087 c341 = 12 := gSg.typ g2090 sh2085.1 lp2084c11 rTk_12
    have t2109 : ty2087 c391 = 13 := gSg.typ g2090 sh2085.1 lp2084c12 rTk_13
    have t2110 : ty2087 c447 = 14 := gSg.typ g2090 sh2085.1 lp2084c13 rTk_14
    have t2111 : ty2087 c503 = 15 := gSg.typ g2090 sh2085.1 lp2084c14 rTk_15
    have t2112 : ty2087 c562 = 16 := gSg.typ g2090 sh2085.1 lp2084c15 rTk_16
    have t2113 : ty2087 c624 = 17 := gSg.typ g2090 sh2085.1 lp2084c16 rTk_17
    have t2114 : ty2087 c689 = 18 := gSg.typ g2090 sh2085.1 lp2084c17 rTk_18
    have t2115 : ty2087 c760 = 19 := gSg.typ g2090 sh2085.1 lp2084c18 rTk_19
    have t2116 : ty2087 c831 = 20 := gSg.typ g2090 sh2085.1 lp2084c19 rTk_20
    have t2117 : ty2087 c905 = 21 := gSg.typ g2090 sh2085.1 lp2084c20 rTk_21
    have t2118 : ty2087 c982 = 22 := gSg.typ g2090 sh2085.1 lp2084c21 rTk_22
    have t2119 : ty2087 c1065 = 23 := gSg.typ g2090 sh2085.1 lp2084c22 rTk_23
    have t2120 : ty2087 c1148 = 24 := gSg.typ g2090 sh2085.1 lp2084c23 rTk_24
    have t2121 : ty2087 c1234 = 25 := gSg.typ g2090 sh2085.1 lp2084c24 rTk_25
    have t2122 : ty2087 c1323 = 26 := gSg.typ g2090 sh2085.1 lp2084c25 rTk_26
    have t2123 : ty2087 c1420 = 27 := gSg.typ g2090 sh2085.1 lp2084c26 rTk_27
    have t2124 : ty2087 c1519 = 28 := gSg.typ g2090 sh2085.1 lp2084c27 rTk_28
    have t2125 : ty2087 c1623 = 29 := gSg.typ g2090 sh2085.1 lp2084c28 rTk_29
    have t2126 : ty2087 c1735 = 30 := gSg.typ g2090 sh2085.1 lp2084c29 rTk_30
    have t2127 : ty2087 c1849 = 31 := gSg.typ g2090 sh2085.1 lp2084c30 rTk_31
    have t2128 : ty2087 c1966 = 32 := gSg.typ g2090 sh2085.1 lp2084c31 rTk_32
    have s2129 := gSg.rawat g2090 lp2084w0 (fun w => by cases w) lp2084c0 (by decide) lp2084k0
    have s2130 := gSg.rawat g2090 lp2084w0 (fun w => by cases w) lp2084c0 (by decide) lp2084k1
    have s2131 := gSg.rawat g2090 lp2084w0 (fun w => by cases w) lp2084c0 (by decide) lp2084k2
    have s2132 := gSg.rawat g2090 lp2084w0 (fun w => by cases w) lp2084c0 (by decide) lp2084k3
    have s2133 := gSg.rawat g2090 lp2084w0 (fun w => by cases w) lp2084c0 (by decide) lp2084k4
    have s2134 := gSg.rawat g2090 lp2084w0 (fun w => by cases w) lp2084c0 (by decide) lp2084k5
    have s2135 := gSg.rawat g2090 lp2084w0 (fun w => by cases w) lp2084c0 (by decide) lp2084k6
    have s2136 := gSg.rawat g2090 lp2084w0 (fun w => by cases w) lp2084c0 (by decide) lp2084k7
    have s2137 := gSg.rawat g2090 lp2084w0 (fun w => by cases w) lp2084c0 (by decide) lp2084k8
    have s2138 := gSg.rawat g2090 lp2084w0 (fun w => by cases w) lp2084c0 (by decide) lp2084k9
    have s2139 := gSg.rawat g2090 lp2084w0 (fun w => by cases w) lp2084c0 (by decide) lp2084k10
    have s2140 := gSg.rawat g2090 lp2084w0 (fun w => by cases w) lp2084c0 (by decide) lp2084k11
    have s2141 := gSg.rawat g2090 lp2084w0 (fun w => by cases w) lp2084c0 (by decide) lp2084k12
    have s2142 := gSg.rawat g2090 lp2084w0 (fun w => by cases w) lp2084c0 (by decide) lp2084k13
    have s2143 := gSg.rawat g2090 lp2084w0 (fun w => by cases w) lp2084c0 (by decide) lp2084k14
    have s2144 := gSg.rawat g2090 lp2084w0 (fun w => by cases w) lp2084c0 (by decide) lp2084k15
    have s2145 := gSg.rawat g2090 lp2084w0 (fun w => by cases w) lp2084c0 (by decide) lp2084k16
    have s2146 := gSg.rawat g2090 lp2084w0 (fun w => by cases w) lp2084c0 (by decide) lp2084k17
    have s2147 := gSg.rawat g2090 lp2084w0 (fun w => by cases w) lp2084c0 (by decide) lp2084k18
    have s2148 := gSg.rawat g2090 lp2084w0 (fun w => by cases w) lp2084c0 (by decide) lp2084k19
    have s2149 := gSg.rawat g2090 lp2084w0 (fun w => by cases w) lp2084c0 (by decide) lp2084k20
    have s2150 := gSg.rawat g2090 lp2084w0 (fun w => by cases w) lp2084c0 (by decide) lp2084k21
    have s2151 := gSg.rawat g2090 lp2084w0 (fun w => by cases w) lp2084c0 (by decide) lp2084k22
    have s2152 := gSg.rawat g2090 lp2084w0 (fun w => by cases w) lp2084c0 (by decide) lp2084k23
    have s2153 := gSg.rawat g2090 lp2084w0 (fun w => by cases w) lp2084c0 (by decide) lp2084k24
    have s2154 := gSg.rawat g2090 lp2084w0 (fun w => by cases w) lp2084c0 (by decide) lp2084k25
    have s2155 := gSg.rawat g2090 lp2084w0 (fun w => by cases w) lp2084c0 (by decide) lp2084k26
    have s2156 := gSg.rawat g2090 lp2084w0 (fun w => by cases w) lp2084c0 (by decide) lp2084k27
    have s2157 := gSg.rawat g2090 lp2084w0 (fun w => by cases w) lp2084c0 (by decide) lp2084k28
    have s2158 := gSg.rawat g2090 lp2084w0 (fun w => by cases w) lp2084c0 (by decide) lp2084k29
    have s2159 := gSg.rawat g2090 lp2084w0 (fun w => by cases w) lp2084c0 (by decide) lp2084k30
    have pr2160 : gNo [1, 34, 35, 36, 37, 38, 39, 40, 41, 42] ty2087 := gNo.gr g2090 (by decide +kernel) (gNo.sub (by decide +kernel) lp2084k31)
    have pr2161 := gRn.gr g2090 sh2085.1 rfl (by decide) (by decide) lp2084k32
    have pr2162 := gRn.gr g2090 sh2085.1 rfl (by decide) (by decide) lp2084k33
    have pr2163 := gRn.gr g2090 sh2085.1 rfl (by decide) (by decide) lp2084k34
    have pr2164 := gRn.gr g2090 sh2085.1 rfl (by decide) (by decide) lp2084k35
    have pr2165 := gRn.gr g2090 sh2085.1 rfl (by decide) (by decide) lp2084k36
    have sS2166 : gSs rT 1027 ty2087 [8999, 10999, 31999] h2088 h2088 := gSs.rf g2090.1
    refine gs_rput rfl (by decide) rfl sS2166.1 t2097 nx rw2093.2.1 rf2094 rfl (Or.inr rfl) (fun h2167 g2168 nh2167 mh2167 kh2167 zh2167 eh2167 fh2167 => ?_)
    have G2169 : gSg [1, 2, 3, 4, 5, 6, 7, 8, 9, 10, 11, 12, 13, 14, 15, 16, 17, 18, 19, 20, 21, 22, 23, 24, 25, 26, 27, 28, 29, 30, 31, 32, 33, 34, 35, 36, 37, 38, 39, 40, 41, 42, 200] [x] [8999, 10999, 31999] ty h ty2087 h2167 := gSg.tr (gSg.ss G2092 sS2166 (by decide)) g2168 (by decide) (by decide) (fun x hx => Or.inr hx)
    have pr2170 := gRn.gr g2168 sS2166.1 rfl (by decide) (by decide) pr2161
    have pr2171 := gRn.gr g2168 sS2166.1 rfl (by decide) (by decide) pr2162
    have pr2172 := gRn.gr g2168 sS2166.1 rfl (by decide) (by decide) pr2163
    have pr2173 := gRn.gr g2168 sS2166.1 rfl (by decide) (by decide) pr2164
    have pr2174 := gRn.gr g2168 sS2166.1 rfl (by decide) (by decide) pr2165
    have sS2175 : gSs rT 1027 ty2087 [8999, 10999, 31999] h2167 h2167 := gSs.rf g2168.1
    have rf2176 := Nat.lt_of_lt_of_eq rw2093.2.1 nh2167.symm
    have rf2177 := zh2167.trans rf2095
    have dd2178 : ∀ k, ¬ k ∈ ([63, 60, 58, 57, 56, 55, 54, 49, 40, 38, 37, 36, 35, 34, 33, 32, 31, 30, 29, 28, 27, 26, 25, 15, 14, 13, 12, 11, 10, 9, 4, 2] : List Nat) → h2167.2.2.2.2 x k = defaultValue (gGG.2.1 12 k) := raw_dp fh2167 dd2096
    have s2179 := (fh2167 2 (by decide)).trans s2129
    have s2180 := (fh2167 4 (by decide)).trans s2130
    have s2181 := (fh2167 9 (by decide)).trans s2131
    have s2182 := (fh2167 10 (by decide)).trans s2132
    have s2183 := (fh2167 11 (by decide)).trans s2133
    have s2184 := (fh2167 12 (by decide)).trans s2134
    have s2185 := (fh2167 13 (by decide)).trans s2135
    have s2186 := (fh2167 14 (by decide)).trans s2136
    have s2187 := (fh2167 15 (by decide)).trans s2137
    have s2188 := (fh2167 25 (by decide)).trans s2138
    have s2189 := (fh2167 26 (by decide)).trans s2139
    have s2190 := (fh2167 27 (by decide)).trans s2140
    have s2191 := (fh2167 28 (by decide)).trans s2141
    have s2192 := (fh2167 29 (by decide)).trans s2142
    have s2193 := (fh2167 30 (by decide)).trans s2143
    have s2194 := (fh2167 31 (by decide)).trans s2144
    have s2195 := (fh2167 32 (by decide)).trans s2145
    have s2196 := (fh2167 33 (by decide)).trans s2146
    have s2197 := (fh2167 34 (by decide)).trans s2147
    have s2198 := (fh2167 35 (by decide)).trans s2148
    have s2199 := (fh2167 36 (by decide)).trans s2149
    have s2200 := (fh2167 37 (by decide)).trans s2150
    have s2201 := (fh2167 38 (by decide)).trans s2151
    have s2202 := (fh2167 40 (by decide)).trans s2152
    have s2203 := (fh2167 49 (by decide)).trans s2153
    have s2204 := (fh2167 54 (by decide)).trans s2154
    have s2205 := (fh2167 55 (by decide)).trans s2155
    have s2206 := (fh2167 56 (by decide)).trans s2156
    have s2207 := (fh2167 57 (by decide)).trans s2157
    have s2208 := (fh2167 58 (by decide)).trans s2158
    have s2209 := (fh2167 60 (by decide)).trans s2159
    clear G2092 dd2096 pr2161 pr2162 pr2163 pr2164 pr2165 rf2094 rf2095 rw2093 s2129 s2130 s2131 s2132 s2133 s2134 s2135 s2136 s2137 s2138 s2139 s2140 s2141 s2142 s2143 s2144 s2145 s2146 s2147 s2148 s2149 s2150 s2151 s2152 s2153 s2154 s2155 s2156 s2157 s2158 s2159 sS2166
    refine gz_s 2 (pc' := 261) (L' := [some (.ref x), none, none, none, none]) (S' := [.int (zi 64), .ref x]) rfl ?_
    refine gs_newr 34 rfl (by decide) rfl sS2175.1 (Nat.le_of_lt (Nat.lt_of_le_of_lt (gJ.cell sS2175.1 t2098 rfl).1 (gJ.cell sS2175.1 t2098 rfl).2.1)) (by omega) (by omega) rfl rfl (by show (64 : Int) ≤ _; omega) (by show _ ≤ (64 : Int); omega) (fun _ _ => gos_i (by decide) (by decide)) (fun ty2210 h2211 c2212 g2213 tc2212 lc2212 nc2212 mc2212 ec2212 dc2212 uc2212 => ?_)
    have gac2212 : h.1 ≤ c2212 := by have h8 := G2169.2.1; have h9 := sS2175.2.1; omega
    have uq2214 := uc2212 uq2091 (Or.inr (gNo.sub (by decide +kernel) pr2160))
    have G2215 : gSg [1, 2, 3, 4, 5, 6, 7, 8, 9, 10, 11, 12, 13, 14, 15, 16, 17, 18, 19, 20, 21, 22, 23, 24, 25, 26, 27, 28, 29, 30, 31, 32, 33, 34, 35, 36, 37, 38, 39, 40, 41, 42, 200] [x] [8999, 10999, 31999] ty h ty2210 h2211 := gSg.tr (gSg.ss G2169 sS2175 (by decide)) g2213 (by decide) (by decide) (fun x hx => by cases hx)
    have rw2216 := gSg.raw g2213 rf2176 (fun w => by cases w)
    have rf2217 := (rw2216.2.2.1.trans kh2167)
    have rf2218 := (rw2216.2.2.2.trans rf2177)
    have dd2219 := gSg.rawd (ci := 12) (ps := [63, 60, 58, 57, 56, 55, 54, 49, 40, 38, 37, 36, 35, 34, 33, 32, 31, 30, 29, 28, 27, 26, 25, 15, 14, 13, 12, 11, 10, 9, 4, 2]) g2213 rf2176 (fun w => by cases w) t2097 (by decide) dd2178
    have t2220 : ty2210 x = 200 := rw2216.1.trans t2097
    have t2221 : ty2210 c3 = 2 := gSg.typ g2213 sS2175.1 t2098 rTk_2
    have t2222 : ty2210 c23 = 3 := gSg.typ g2213 sS2175.1 t2099 rTk_3
    have t2223 : ty2210 c46 = 4 := gSg.typ g2213 sS2175.1 t2100 rTk_4
    have t2224 : ty2210 c72 = 5 := gSg.typ g2213 sS2175.1 t2101 rTk_5
    have t2225 : ty2210 c101 = 6 := gSg.typ g2213 sS2175.1 t2102 rTk_6
    have t2226 : ty2210 c133 = 7 := gSg.typ g2213 sS2175.1 t2103 rTk_7
    have t2227 : ty2210 c171 = 8 := gSg.typ g2213 sS2175.1 t2104 rTk_8
    have t2228 : ty2210 c209 = 9 := gSg.typ g2213 sS2175.1 t2105 rTk_9
    have t2229 : ty2210 c250 = 10 := gSg.typ g2213 sS2175.1 t2106 rTk_10
    have t2230 : ty2210 c294 = 11 := gSg.typ g2213 sS2175.1 t2107 rTk_11
    have t2231 : ty2210 c341 = 12 := gSg.typ g2213 sS2175.1 t2108 rTk_12
    have t2232 : ty2210 c391 = 13 := gSg.typ g2213 sS2175.1 t2109 rTk_13
    have t2233 : ty2210 c447 = 14 := gSg.typ g2213 sS2175.1 t2110 rTk_14
    have t2234 : ty2210 c503 = 15 := gSg.typ g2213 sS2175.1 t2111 rTk_15
    have t2235 : ty2210 c562 = 16 := gSg.typ g2213 sS2175.1 t2112 rTk_16
    have t2236 : ty2210 c624 = 17 := gSg.typ g2213 sS2175.1 t2113 rTk_17
    have t2237 : ty2210 c689 = 18 := gSg.typ g2213 sS2175.1 t2114 rTk_18
    have t2238 : ty2210 c760 = 19 := gSg.typ g2213 sS2175.1 t2115 rTk_19
    have t2239 : ty2210 c831 = 20 := gSg.typ g2213 sS2175.1 t2116 rTk_20
    have t2240 : ty2210 c905 = 21 := gSg.typ g2213 sS2175.1 t2117 rTk_21
    have t2241 : ty2210 c982 = 22 := gSg.typ g2213 sS2175.1 t2118 rTk_22
    have t2242 : ty2210 c1065 = 23 := gSg.typ g2213 sS2175.1 t2119 rTk_23
    have t2243 : ty2210 c1148 = 24 := gSg.typ g2213 sS2175.1 t2120 rTk_24
    have t2244 : ty2210 c1234 = 25 := gSg.typ g2213 sS2175.1 t2121 rTk_25
    have t2245 : ty2210 c1323 = 26 := gSg.typ g2213 sS2175.1 t2122 rTk_26
    have t2246 : ty2210 c1420 = 27 := gSg.typ g2213 sS2175.1 t2123 rTk_27
    have t2247 : ty2210 c1519 = 28 := gSg.typ g2213 sS2175.1 t2124 rTk_28
    have t2248 : ty2210 c1623 = 29 := gSg.typ g2213 sS2175.1 t2125 rTk_29
    have t2249 : ty2210 c1735 = 30 := gSg.typ g2213 sS2175.1 t2126 rTk_30
    have t2250 : ty2210 c1849 = 31 := gSg.typ g2213 sS2175.1 t2127 rTk_31
    have t2251 : ty2210 c1966 = 32 := gSg.typ g2213 sS2175.1 t2128 rTk_32
    have t2252 : ty2210 c2089 = 33 := gSg.typ g2213 sS2175.1 tc2089 rTk_33
    have s2253 := gSg.rawat g2213 rf2176 (fun w => by cases w) t2097 (by decide) s2179
    have s2254 := gSg.rawat g2213 rf2176 (fun w => by cases w) t2097 (by decide) s2180
    have s2255 := gSg.rawat g2213 rf2176 (fun w => by cases w) t2097 (by decide) s2181
    have s2256 := gSg.rawat g2213 rf2176 (fun w => by cases w) t2097 (by decide) s2182
    have s2257 := gSg.rawat g2213 rf2176 (fun w => by cases w) t2097 (by decide) s2183
    have s2258 := gSg.rawat g2213 rf2176 (fun w => by cases w) t2097 (by decide) s2184
    have s2259 := gSg.rawat g2213 rf2176 (fun w => by cases w) t2097 (by decide) s2185
    have s2260 := gSg.rawat g2213 rf2176 (fun w => by cases w) t2097 (by decide) s2186
    have s2261 := gSg.rawat g2213 rf2176 (fun w => by cases w) t2097 (by decide) s2187
    have s2262 := gSg.rawat g2213 rf2176 (fun w => by cases w) t2097 (by decide) s2188
    have s2263 := gSg.rawat g2213 rf2176 (fun w => by cases w) t2097 (by decide) s2189
    have s2264 := gSg.rawat g2213 rf2176 (fun w => by cases w) t2097 (by decide) s2190
    have s2265 := gSg.rawat g2213 rf2176 (fun w => by cases w) t2097 (by decide) s2191
    have s2266 := gSg.rawat g2213 rf2176 (fun w => by cases w) t2097 (by decide) s2192
    have s2267 := gSg.rawat g2213 rf2176 (fun w => by cases w) t2097 (by decide) s2193
    have s2268 := gSg.rawat g2213 rf2176 (fun w => by cases w) t2097 (by decide) s2194
    have s2269 := gSg.rawat g2213 rf2176 (fun w => by cases w) t2097 (by decide) s2195
    have s2270 := gSg.rawat g2213 rf2176 (fun w => by cases w) t2097 (by decide) s2196
    have s2271 := gSg.rawat g2213 rf2176 (fun w => by cases w) t2097 (by decide) s2197
    have s2272 := gSg.rawat g2213 rf2176 (fun w => by cases w) t2097 (by decide) s2198
    have s2273 := gSg.rawat g2213 rf2176 (fun w => by cases w) t2097 (by decide) s2199
    have s2274 := gSg.rawat g2213 rf2176 (fun w => by cases w) t2097 (by decide) s2200
    have s2275 := gSg.rawat g2213 rf2176 (fun w => by cases w) t2097 (by decide) s2201
    have s2276 := gSg.rawat g2213 rf2176 (fun w => by cases w) t2097 (by decide) s2202
    have s2277 := gSg.rawat g2213 rf2176 (fun w => by cases w) t2097 (by decide) s2203
    have s2278 := gSg.rawat g2213 rf2176 (fun w => by cases w) t2097 (by decide) s2204
    have s2279 := gSg.rawat g2213 rf2176 (fun w => by cases w) t2097 (by decide) s2205
    have s2280 := gSg.rawat g2213 rf2176 (fun w => by cases w) t2097 (by decide) s2206
    have s2281 := gSg.rawat g2213 rf2176 (fun w => by cases w) t2097 (by decide) s2207
    have s2282 := gSg.rawat g2213 rf2176 (fun w => by cases w) t2097 (by decide) s2208
    have s2283 := gSg.rawat g2213 rf2176 (fun w => by cases w) t2097 (by decide) s2209
    have s2284 := gSg.rawat g2213 rf2176 (fun w => by cases w) t2097 (by decide) eh2167
    have pr2285 : gNo [1, 35, 36, 37, 38, 39, 40, 41, 42] ty2210 := gNo.gr g2213 (by decide +kernel) (gNo.sub (by decide +kernel) pr2160)
    have pr2286 := gRn.gr g2213 sS2175.1 rfl (by decide) (by decide) pr2170
    have pr2287 := gRn.gr g2213 sS2175.1 rfl (by decide) (by decide) pr2171
    have pr2288 := gRn.gr g2213 sS2175.1 rfl (by decide) (by decide) pr2172
    have pr2289 := gRn.gr g2213 sS2175.1 rfl (by decide) (by decide) pr2173
    have pr2290 := gRn.gr g2213 sS2175.1 rfl (by decide) (by decide) pr2174
    have sS2291 : gSs rT 1027 ty2210 [8999, 10999, 31999] h2211 h2211 := gSs.rf g2213.1
    clear G2169 dd2178 pr2160 pr2170 pr2171 pr2172 pr2173 pr2174 rf2176 rf2177 s2179 s2180 s2181 s2182 s2183 s2184 s2185 s2186 s2187 s2188 s2189 s2190 s2191 s2192 s2193 s2194 s2195 s2196 s2197 s2198 s2199 s2200 s2201 s2202 s2203 s2204 s2205 s2206 s2207 s2208 s2209 sS2175 t2097 t2098 t2099 t2100 t2101 t2102 t2103 t2104 t2105 t2106 t2107 t2108 t2109 t2110 t2111 t2112 t2113 t2114 t2115 t2116 t2117 t2118 t2119 t2120 t2121 t2122 t2123 t2124 t2125 t2126 t2127 t2128 uq2091
    refine gs_rput rfl (by decide) rfl sS2291.1 t2220 nx rw2216.2.1 rf2217 rfl (Or.inr rfl) (fun h2292 g2293 nh2292 mh2292 kh2292 zh2292 eh2292 fh2292 => ?_)
    have G2294 : gSg [1, 2, 3, 4, 5, 6, 7, 8, 9, 10, 11, 12, 13, 14, 15, 16, 17, 18, 19, 20, 21, 22, 23, 24, 25, 26, 27, 28, 29, 30, 31, 32, 33, 34, 35, 36, 37, 38, 39, 40, 41, 42, 200] [x] [8999, 10999, 31999] ty h ty2210 h2292 := gSg.tr (gSg.ss G2215 sS2291 (by decide)) g2293 (by decide) (by decide) (fun x hx => Or.inr hx)
    have pr2295 := gRn.gr g2293 sS2291.1 rfl (by decide) (by decide) pr2286
    have pr2296 := gRn.gr g2293 sS2291.1 rfl (by decide) (by decide) pr2287
    have pr2297 := gRn.gr g2293 sS2291.1 rfl (by decide) (by decide) pr2288
    have pr2298 := gRn.gr g2293 sS2291.1 rfl (by decide) (by decide) pr2289
    have pr2299 := gRn.gr g2293 sS2291.1 rfl (by decide) (by decide) pr2290
    have sS2300 : gSs rT 1027 ty2210 [8999, 10999, 31999] h2292 h2292 := gSs.rf g2293.1
    have rf2301 := Nat.lt_of_lt_of_eq rw2216.2.1 nh2292.symm
    have rf2302 := zh2292.trans rf2218
    have dd2303 : ∀ k, ¬ k ∈ ([65, 63, 60, 58, 57, 56, 55, 54, 49, 40, 38, 37, 36, 35, 34, 33, 32, 31, 30, 29, 28, 27, 26, 25, 15, 14, 13, 12, 11, 10, 9, 4, 2] : List Nat) → h2292.2.2.2.2 x k = defaultValue (gGG.2.1 12 k) := raw_dp fh2292 dd2219
    have s2304 := (fh2292 2 (by decide)).trans s2253
    have s2305 := (fh2292 4 (by decide)).trans s2254
    have s2306 := (fh2292 9 (by decide)).trans s2255
    have s2307 := (fh2292 10 (by decide)).trans s2256
    have s2308 := (fh2292 11 (by decide)).trans s2257
    have s2309 := (fh2292 12 (by decide)).trans s2258
    have s2310 := (fh2292 13 (by decide)).trans s2259
    have s2311 := (fh2292 14 (by decide)).trans s2260
    have s2312 := (fh2292 15 (by decide)).trans s2261
    have s2313 := (fh2292 25 (by decide)).trans s2262
    have s2314 := (fh2292 26 (by decide)).trans s2263
    have s2315 := (fh2292 27 (by decide)).trans s2264
    have s2316 := (fh2292 28 (by decide)).trans s2265
    have s2317 := (fh2292 29 (by decide)).trans s2266
    have s2318 := (fh2292 30 (by decide)).trans s2267
    have s2319 := (fh2292 31 (by decide)).trans s2268
    have s2320 := (fh2292 32 (by decide)).trans s2269
    have s2321 := (fh2292 33 (by decide)).trans s2270
    have s2322 := (fh2292 34 (by decide)).trans s2271
    have s2323 := (fh2292 35 (by decide)).trans s2272
    have s2324 := (fh2292 36 (by decide)).trans s2273
    have s2325 := (fh2292 37 (by decide)).trans s2274
    have s2326 := (fh2292 38 (by decide)).trans s2275
    have s2327 := (fh2292 40 (by decide)).trans s2276
    have s2328 := (fh2292 49 (by decide)).trans s2277
    have s2329 := (fh2292 54 (by decide)).trans s2278
    have s2330 := (fh2292 55 (by decide)).trans s2279
    have s2331 := (fh2292 56 (by decide)).trans s2280
    have s2332 := (fh2292 57 (by decide)).trans s2281
    have s2333 := (fh2292 58 (by decide)).trans s2282
    have s2334 := (fh2292 60 (by decide)).trans s2283
    have s2335 := (fh2292 63 (by decide)).trans s2284
    clear G2215 dd2219 pr2286 pr2287 pr2288 pr2289 pr2290 rf2217 rf2218 rw2216 s2253 s2254 s2255 s2256 s2257 s2258 s2259 s2260 s2261 s2262 s2263 s2264 s2265 s2266 s2267 s2268 s2269 s2270 s2271 s2272 s2273 s2274 s2275 s2276 s2277 s2278 s2279 s2280 s2281 s2282 s2283 s2284 sS2291
    refine gz_s 2 (pc' := 269) (L' := [some (.ref x), none, none, none, none]) (S' := [.int (zi 17), .ref x]) rfl ?_
    refine gs_newr 35 rfl (by decide) rfl sS2300.1 (Nat.le_of_lt (Nat.lt_of_le_of_lt (gJ.cell sS2300.1 t2221 rfl).1 (gJ.cell sS2300.1 t2221 rfl).2.1)) (by omega) (by omega) rfl rfl (by show (17 : Int) ≤ _; omega) (by show _ ≤ (17 : Int); omega) (fun _ _ => gos_i (by decide) (by decide)) (fun ty2336 h2337 c2338 g2339 tc2338 lc2338 nc2338 mc2338 ec2338 dc2338 uc2338 => ?_)
    have gac2338 : h.1 ≤ c2338 := by have h8 := G2294.2.1; have h9 := sS2300.2.1; omega
    have uq2340 := uc2338 uq2214 (Or.inr (gNo.sub (by decide +kernel) pr2285))
    have G2341 : gSg [1, 2, 3, 4, 5, 6, 7, 8, 9, 10, 11, 12, 13, 14, 15, 16, 17, 18, 19, 20, 21, 22, 23, 24, 25, 26, 27, 28, 29, 30, 31, 32, 33, 34, 35, 36, 37, 38, 39, 40, 41, 42, 200] [x] [8999, 10999, 31999] ty h ty2336 h2337 := gSg.tr (gSg.ss G2294 sS2300 (by decide)) g2339 (by decide) (by decide) (fun x hx => by cases hx)
    have rw2342 := gSg.raw g2339 rf2301 (fun w => by cases w)
    have rf2343 := (rw2342.2.2.1.trans kh2292)
    have rf2344 := (rw2342.2.2.2.trans rf2302)
    have dd2345 := gSg.rawd (ci := 12) (ps := [65, 63, 60, 58, 57, 56, 55, 54, 49, 40, 38, 37, 36, 35, 34, 33, 32, 31, 30, 29, 28, 27, 26, 25, 15, 14, 13, 12, 11, 10, 9, 4, 2]) g2339 rf2301 (fun w => by cases w) t2220 (by decide) dd2303
    have t2346 : ty2336 x = 200 := rw2342.1.trans t2220
    have t2347 : ty2336 c3 = 2 := gSg.typ g2339 sS2300.1 t2221 rTk_2
    have t2348 : ty2336 c23 = 3 := gSg.typ g2339 sS2300.1 t2222 rTk_3
    have t2349 : ty2336 c46 = 4 := gSg.typ g2339 sS2300.1 t2223 rTk_4
    have t2350 : ty2336 c72 = 5 := gSg.typ g2339 sS2300.1 t2224 rTk_5
    have t2351 : ty2336 c101 = 6 := gSg.typ g2339 sS2300.1 t2225 rTk_6
    have t2352 : ty2336 c133 = 7 := gSg.typ g2339 sS2300.1 t2226 rTk_7
    have t2353 : ty2336 c171 = 8 := gSg.typ g2339 sS2300.1 t2227 rTk_8
    have t2354 : ty2336 c209 = 9 := gSg.typ g2339 sS2300.1 t2228 rTk_9
    have t2355 : ty2336 c250 = 10 := gSg.typ g2339 sS2300.1 t2229 rTk_10
    have t2356 : ty2336 c294 = 11 := gSg.typ g2339 sS2300.1 t2230 rTk_11
    have t2357 : ty2336 c341 = 12 := gSg.typ g2339 sS2300.1 t2231 rTk_12
    have t2358 : ty2336 c391 = 13 := gSg.typ g2339 sS2300.1 t2232 rTk_13
    have t2359 : ty2336 c447 = 14 := gSg.typ g2339 sS2300.1 t2233 rTk_14
    have t2360 : ty2336 c503 = 15 := gSg.typ g2339 sS2300.1 t2234 rTk_15
    have t2361 : ty2336 c562 = 16 := gSg.typ g2339 sS2300.1 t2235 rTk_16
    have t2362 : ty2336 c624 = 17 := gSg.typ g2339 sS2300.1 t2236 rTk_17
    have t2363 : ty2336 c689 = 18 := gSg.typ g2339 sS2300.1 t2237 rTk_18
    have t2364 : ty2336 c760 = 19 := gSg.typ g2339 sS2300.1 t2238 rTk_19
    have t2365 : ty2336 c831 = 20 := gSg.typ g2339 sS2300.1 t2239 rTk_20
    have t2366 : ty2336 c905 = 21 := gSg.typ g2339 sS2300.1 t2240 rTk_21
    have t2367 : ty2336 c982 = 22 := gSg.typ g2339 sS2300.1 t2241 rTk_22
    have t2368 : ty2336 c1065 = 23 := gSg.typ g2339 sS2300.1 t2242 rTk_23
    have t2369 : ty2336 c1148 = 24 := gSg.typ g2339 sS2300.1 t2243 rTk_24
    have t2370 : ty2336 c1234 = 25 := gSg.typ g2339 sS2300.1 t2244 rTk_25
    have t2371 : ty2336 c1323 = 26 := gSg.typ g2339 sS2300.1 t2245 rTk_26
    have t2372 : ty2336 c1420 = 27 := gSg.typ g2339 sS2300.1 t2246 rTk_27
    have t2373 : ty2336 c1519 = 28 := gSg.typ g2339 sS2300.1 t2247 rTk_28
    have t2374 : ty2336 c1623 = 29 := gSg.typ g2339 sS2300.1 t2248 rTk_29
    have t2375 : ty2336 c1735 = 30 := gSg.typ g2339 sS2300.1 t2249 rTk_30
    have t2376 : ty2336 c1849 = 31 := gSg.typ g2339 sS2300.1 t2250 rTk_31
    have t2377 : ty2336 c1966 = 32 := gSg.typ g2339 sS2300.1 t2251 rTk_32
    have t2378 : ty2336 c2089 = 33 := gSg.typ g2339 sS2300.1 t2252 rTk_33
    have t2379 : ty2336 c2212 = 34 := gSg.typ g2339 sS2300.1 tc2212 rTk_34
    have s2380 := gSg.rawat g2339 rf2301 (fun w => by cases w) t2220 (by decide) s2304
    have s2381 := gSg.rawat g2339 rf2301 (fun w => by cases w) t2220 (by decide) s2305
    have s2382 := gSg.rawat g2339 rf2301 (fun w => by cases w) t2220 (by decide) s2306
    have s2383 := gSg.rawat g2339 rf2301 (fun w => by cases w) t2220 (by decide) s2307
    have s2384 := gSg.rawat g2339 rf2301 (fun w => by cases w) t2220 (by decide) s2308
    have s2385 := gSg.rawat g2339 rf2301 (fun w => by cases w) t2220 (by decide) s2309
    have s2386 := gSg.rawat g2339 rf2301 (fun w => by cases w) t2220 (by decide) s2310
    have s2387 := gSg.rawat g2339 rf2301 (fun w => by cases w) t2220 (by decide) s2311
    have s2388 := gSg.rawat g2339 rf2301 (fun w => by cases w) t2220 (by decide) s2312
    have s2389 := gSg.rawat g2339 rf2301 (fun w => by cases w) t2220 (by decide) s2313
    have s2390 := gSg.rawat g2339 rf2301 (fun w => by cases w) t2220 (by decide) s2314
    have s2391 := gSg.rawat g2339 rf2301 (fun w => by cases w) t2220 (by decide) s2315
    have s2392 := gSg.rawat g2339 rf2301 (fun w => by cases w) t2220 (by decide) s2316
    have s2393 := gSg.rawat g2339 rf2301 (fun w => by cases w) t2220 (by decide) s2317
    have s2394 := gSg.rawat g2339 rf2301 (fun w => by cases w) t2220 (by decide) s2318
    have s2395 := gSg.rawat g2339 rf2301 (fun w => by cases w) t2220 (by decide) s2319
    have s2396 := gSg.rawat g2339 rf2301 (fun w => by cases w) t2220 (by decide) s2320
    have s2397 := gSg.rawat g2339 rf2301 (fun w => by cases w) t2220 (by decide) s2321
    have s2398 := gSg.rawat g2339 rf2301 (fun w => by cases w) t2220 (by decide) s2322
    have s2399 := gSg.rawat g2339 rf2301 (fun w => by cases w) t2220 (by decide) s2323
    have s2400 := gSg.rawat g2339 rf2301 (fun w => by cases w) t2220 (by decide) s2324
    have s2401 := gSg.rawat g2339 rf2301 (fun w => by cases w) t2220 (by decide) s2325
    have s2402 := gSg.rawat g2339 rf2301 (fun w => by cases w) t2220 (by decide) s2326
    have s2403 := gSg.rawat g2339 rf2301 (fun w => by cases w) t2220 (by decide) s2327
    have s2404 := gSg.rawat g2339 rf2301 (fun w => by cases w) t2220 (by decide) s2328
    have s2405 := gSg.rawat g2339 rf2301 (fun w => by cases w) t2220 (by decide) s2329
    have s2406 := gSg.rawat g2339 rf2301 (fun w => by cases w) t2220 (by decide) s2330
    have s2407 := gSg.rawat g2339 rf2301 (fun w => by cases w) t2220 (by decide) s2331
    have s2408 := gSg.rawat g2339 rf2301 (fun w => by cases w) t2220 (by decide) s2332
    have s2409 := gSg.rawat g2339 rf2301 (fun w => by cases w) t2220 (by decide) s2333
    have s2410 := gSg.rawat g2339 rf2301 (fun w => by cases w) t2220 (by decide) s2334
    have s2411 := gSg.rawat g2339 rf2301 (fun w => by cases w) t2220 (by decide) s2335
    have s2412 := gSg.rawat g2339 rf2301 (fun w => by cases w) t2220 (by decide) eh2292
    have pr2413 : gNo [1, 36, 37, 38, 39, 40, 41, 42] ty2336 := gNo.gr g2339 (by decide +kernel) (gNo.sub (by decide +kernel) pr2285)
    have pr2414 := gRn.gr g2339 sS2300.1 rfl (by decide) (by decide) pr2295
    have pr2415 := gRn.gr g2339 sS2300.1 rfl (by decide) (by decide) pr2296
    have pr2416 := gRn.gr g2339 sS2300.1 rfl (by decide) (by decide) pr2297
    have pr2417 := gRn.gr g2339 sS2300.1 rfl (by decide) (by decide) pr2298
    have pr2418 := gRn.gr g2339 sS2300.1 rfl (by decide) (by decide) pr2299
    have sS2419 : gSs rT 1027 ty2336 [8999, 10999, 31999] h2337 h2337 := gSs.rf g2339.1
    clear G2294 dd2303 pr2285 pr2295 pr2296 pr2297 pr2298 pr2299 rf2301 rf2302 s2304 s2305 s2306 s2307 s2308 s2309 s2310 s2311 s2312 s2313 s2314 s2315 s2316 s2317 s2318 s2319 s2320 s2321 s2322 s2323 s2324 s2325 s2326 s2327 s2328 s2329 s2330 s2331 s2332 s2333 s2334 s2335 sS2300 t2220 t2221 t2222 t2223 t2224 t2225 t2226 t2227 t2228 t2229 t2230 t2231 t2232 t2233 t2234 t2235 t2236 t2237 t2238 t2239 t2240 t2241 t2242 t2243 t2244 t2245 t2246 t2247 t2248 t2249 t2250 t2251 t2252 uq2214
    refine gs_rput rfl (by decide) rfl sS2419.1 t2346 nx rw2342.2.1 rf2343 rfl (Or.inr rfl) (fun h2420 g2421 nh2420 mh2420 kh2420 zh2420 eh2420 fh2420 => ?_)
    have G2422 : gSg [1, 2, 3, 4, 5, 6, 7, 8, 9, 10, 11, 12, 13, 14, 15, 16, 17, 18, 19, 20, 21, 22, 23, 24, 25, 26, 27, 28, 29, 30, 31, 32, 33, 34, 35, 36, 37, 38, 39, 40, 41, 42, 200] [x] [8999, 10999, 31999] ty h ty2336 h2420 := gSg.tr (gSg.ss G2341 sS2419 (by decide)) g2421 (by decide) (by decide) (fun x hx => Or.inr hx)
    have pr2423 := gRn.gr g2421 sS2419.1 rfl (by decide) (by decide) pr2414
    have pr2424 := gRn.gr g2421 sS2419.1 rfl (by decide) (by decide) pr2415
    have pr2425 := gRn.gr g2421 sS2419.1 rfl (by decide) (by decide) pr2416
    have pr2426 := gRn.gr g2421 sS2419.1 rfl (by decide) (by decide) pr2417
    have pr2427 := gRn.gr g2421 sS2419.1 rfl (by decide) (by decide) pr2418
    have sS2428 : gSs rT 1027 ty2336 [8999, 10999, 31999] h2420 h2420 := gSs.rf g2421.1
    have rf2429 := Nat.lt_of_lt_of_eq rw2342.2.1 nh2420.symm
    have rf2430 := zh2420.trans rf2344
    have dd2431 : ∀ k, ¬ k ∈ ([66, 65, 63, 60, 58, 57, 56, 55, 54, 49, 40, 38, 37, 36, 35, 34, 33, 32, 31, 30, 29, 28, 27, 26, 25, 15, 14, 13, 12, 11, 10, 9, 4, 2] : List Nat) → h2420.2.2.2.2 x k = defaultValue (gGG.2.1 12 k) := raw_dp fh2420 dd2345
    have s2432 := (fh2420 2 (by decide)).trans s2380
    have s2433 := (fh2420 4 (by decide)).trans s2381
    have s2434 := (fh2420 9 (by decide)).trans s2382
    have s2435 := (fh2420 10 (by decide)).trans s2383
    have s2436 := (fh2420 11 (by decide)).trans s2384
    have s2437 := (fh2420 12 (by decide)).trans s2385
    have s2438 := (fh2420 13 (by decide)).trans s2386
    have s2439 := (fh2420 14 (by decide)).trans s2387
    have s2440 := (fh2420 15 (by decide)).trans s2388
    have s2441 := (fh2420 25 (by decide)).trans s2389
    have s2442 := (fh2420 26 (by decide)).trans s2390
    have s2443 := (fh2420 27 (by decide)).trans s2391
    have s2444 := (fh2420 28 (by decide)).trans s2392
    have s2445 := (fh2420 29 (by decide)).trans s2393
    have s2446 := (fh2420 30 (by decide)).trans s2394
    have s2447 := (fh2420 31 (by decide)).trans s2395
    have s2448 := (fh2420 32 (by decide)).trans s2396
    have s2449 := (fh2420 33 (by decide)).trans s2397
    have s2450 := (fh2420 34 (by decide)).trans s2398
    have s2451 := (fh2420 35 (by decide)).trans s2399
    have s2452 := (fh2420 36 (by decide)).trans s2400
    have s2453 := (fh2420 37 (by decide)).trans s2401
    have s2454 := (fh2420 38 (by decide)).trans s2402
    have s2455 := (fh2420 40 (by decide)).trans s2403
    have s2456 := (fh2420 49 (by decide)).trans s2404
    have s2457 := (fh2420 54 (by decide)).trans s2405
    have s2458 := (fh2420 55 (by decide)).trans s2406
    have s2459 := (fh2420 56 (by decide)).trans s2407
    have s2460 := (fh2420 57 (by decide)).trans s2408
    have s2461 := (fh2420 58 (by decide)).trans s2409
    have s2462 := (fh2420 60 (by decide)).trans s2410
    have s2463 := (fh2420 63 (by decide)).trans s2411
    have s2464 := (fh2420 65 (by decide)).trans s2412
    clear G2341 dd2345 pr2414 pr2415 pr2416 pr2417 pr2418 rf2343 rf2344 rw2342 s2380 s2381 s2382 s2383 s2384 s2385 s2386 s2387 s2388 s2389 s2390 s2391 s2392 s2393 s2394 s2395 s2396 s2397 s2398 s2399 s2400 s2401 s2402 s2403 s2404 s2405 s2406 s2407 s2408 s2409 s2410 s2411 s2412 sS2419
    have lp2465 := cmlp2465 d hJ x nx c3 c23 c46 c72 c101 c133 c171 c209 c250 c294 c341 c391 c447 c503 c562 c624 c689 c760 c831 c905 c982 c1065 c1148 c1234 c1323 c1420 c1519 c1623 c1735 c1849 c1966 c2089 c2212 c2338
    have G3751 : gSg [1, 2, 3, 4, 5, 6, 7, 8, 9, 10, 11, 12, 13, 14, 15, 16, 17, 18, 19, 20, 21, 22, 23, 24, 25, 26, 27, 28, 29, 30, 31, 32, 33, 34, 35, 36, 37, 38, 39, 40, 41, 42, 200] [x] [8999, 10999, 31999] ty h ty2336 h2420 := gSg.ss G2422 sS2428 (by decide)
    exact gz_wk (lp2465 _ ty2336 h2420  (Nat.lt_succ_self _) G3751 uq2340 t2346 t2347 t2348 t2349 t2350 t2351 t2352 t2353 t2354 t2355 t2356 t2357 t2358 t2359 t2360 t2361 t2362 t2363 t2364 t2365 t2366 t2367 t2368 t2369 t2370 t2371 t2372 t2373 t2374 t2375 t2376 t2377 t2378 t2379 tc2338 (by omega) (by omega) s2432 s2433 s2434 s2435 s2436 s2437 s2438 s2439 s2440 s2441 s2442 s2443 s2444 s2445 s2446 s2447 s2448 s2449 s2450 s2451 s2452 s2453 s2454 s2455 s2456 s2457 s2458 s2459 s2460 s2461 s2462 s2463 s2464 eh2420 pr2413 pr2423 pr2424 pr2425 pr2426 pr2427 rf2429 kh2420 rf2430 dd2431) (gLw.s (gLw.n (gLw.n (gLw.n (gLw.n gLw.z)))))
set_option maxRecDepth 20000 in
set_option maxHeartbeats 4000000 in
theorem cmlp1730 (d : Nat) {ty : Nat → Nat} {h : gH} (hJ : gJ rT 1027 ty h) (x : Nat) (nx : 1027 ≤ x) (c3 c23 c46 c72 c101 c133 c171 c209 c250 c294 c341 c391 c447 c503 c562 c624 c689 c760 c831 c905 c982 c1065 c1148 c1234 c1323 c1420 c1519 c1623 : Nat) : ∀ (fu : Nat) (ty1732 : Nat → Nat) (h1731 : gH), ((1 : Int)).toNat < fu → gSg [1, 2, 3, 4, 5, 6, 7, 8, 9, 10, 11, 12, 13, 14, 15, 16, 17, 18, 19, 20, 21, 22, 23, 24, 25, 26, 27, 28, 29, 30, 31, 32, 33, 34, 35, 36, 37, 38, 39, 40, 41, 42, 200] [x] [8999, 10999, 31999] ty h ty1732 h1731 → gUq ty1732 → ty1732 x = 200 → ty1732 c3 = 2 → ty1732 c23 = 3 → ty1732 c46 = 4 → ty1732 c72 = 5 → ty1732 c101 = 6 → ty1732 c133 = 7 → ty1732 c171 = 8 → ty1732 c209 = 9 → ty1732 c250 = 10 → ty1732 c294 = 11 → ty1732 c341 = 12 → ty1732 c391 = 13 → ty1732 c447 = 14 → ty1732 c503 = 15 → ty1732 c562 = 16 → ty1732 c624 = 17 → ty1732 c689 = 18 → ty1732 c760 = 19 → ty1732 c831 = 20 → ty1732 c905 = 21 → ty1732 c982 = 22 → ty1732 c1065 = 23 → ty1732 c1148 = 24 → ty1732 c1234 = 25 → ty1732 c1323 = 26 → ty1732 c1420 = 27 → ty1732 c1519 = 28 → ty1732 c1623 = 29 → ((h1731.1 : Int) = h.1 + 28) → ((h1731.2.1 : Int) = h.2.1 + 24325) → h1731.2.2.2.2 x 2 = .ref c3 → h1731.2.2.2.2 x 4 = .ref c23 → h1731.2.2.2.2 x 9 = .ref c46 → h1731.2.2.2.2 x 10 = .ref c72 → h1731.2.2.2.2 x 11 = .ref c101 → h1731.2.2.2.2 x 12 = .ref c133 → h1731.2.2.2.2 x 13 = .ref c171 → h1731.2.2.2.2 x 14 = .ref c209 → h1731.2.2.2.2 x 15 = .ref c250 → h1731.2.2.2.2 x 25 = .ref c294 → h1731.2.2.2.2 x 26 = .ref c341 → h1731.2.2.2.2 x 27 = .ref c391 → h1731.2.2.2.2 x 28 = .ref c447 → h1731.2.2.2.2 x 29 = .ref c503 → h1731.2.2.2.2 x 30 = .ref c562 → h1731.2.2.2.2 x 31 = .ref c624 → h1731.2.2.2.2 x 32 = .ref c689 → h1731.2.2.2.2 x 33 = .ref c760 → h1731.2.2.2.2 x 34 = .ref c831 → h1731.2.2.2.2 x 35 = .ref c905 → h1731.2.2.2.2 x 36 = .ref c982 → h1731.2.2.2.2 x 37 = .ref c1065 → h1731.2.2.2.2 x 38 = .ref c1148 → h1731.2.2.2.2 x 40 = .ref c1234 → h1731.2.2.2.2 x 49 = .ref c1323 → h1731.2.2.2.2 x 54 = .ref c1420 → h1731.2.2.2.2 x 55 = .ref c1519 → h1731.2.2.2.2 x 56 = .ref c1623 → gNo [1, 30, 31, 32, 33, 34, 35, 36, 37, 38, 39, 40, 41, 42] ty1732 → gRn 1024 ty1732 26 (fun _ => 0) h1731 → gRn 10 ty1732 27 (fun _ => 0) h1731 → gRn 10 ty1732 28 (fun _ => 0) h1731 → gRn 10 ty1732 29 (fun _ => 0) h1731 → x < h1731.1 → h1731.2.2.1 x = some (.inr 12) → h1731.2.2.2.1 x = 0 → (∀ k, ¬ k ∈ ([56, 55, 54, 49, 40, 38, 37, 36, 35, 34, 33, 32, 31, 30, 29, 28, 27, 26, 25, 15, 14, 13, 12, 11, 10, 9, 4, 2] : List Nat) → h1731.2.2.2.2 x k = defaultValue (gGG.2.1 12 k)) → gz gPP gGG gcn (d + 1) gt130 225 [some (.ref x), none, none, none, none] [] h1731 (fun q _ => ∃ ty9 : Nat → Nat, gSg [1, 2, 3, 4, 5, 6, 7, 8, 9, 10, 11, 12, 13, 14, 15, 16, 17, 18, 19, 20, 21, 22, 23, 24, 25, 26, 27, 28, 29, 30, 31, 32, 33, 34, 35, 36, 37, 38, 39, 40, 41, 42, 200] [x] [8999, 10999, 31999] ty h ty9 q.2.2 ∧ ∃ ip n1 cw ch iv1 wr1 : Int, ty9 x = 1 ∧ gfin gt130 q.1 q.2.1 = some none ∧ q.2.2.2.2.2.2 x 16 = .int (zi ip) ∧ 0 ≤ ip ∧ ip ≤ 1 ∧ q.2.2.2.2.2.2 x 53 = .int (zi n1) ∧ 0 ≤ n1 ∧ n1 ≤ 10 ∧ q.2.2.2.2.2.2 x 50 = .int (zi cw) ∧ 0 ≤ cw ∧ cw ≤ 32 ∧ q.2.2.2.2.2.2 x 51 = .int (zi ch) ∧ 0 ≤ ch ∧ ch ≤ 32 ∧ q.2.2.2.2.2.2 x 52 = .int (zi iv1) ∧ 0 ≤ iv1 ∧ iv1 ≤ 100 ∧ q.2.2.2.2.2.2 x 59 = .int (zi wr1) ∧ 0 ≤ wr1 ∧ wr1 ≤ 60000 ∧ (ip = 0) ∧ (n1 = 0) ∧ (cw = 0) ∧ (ch = 0) ∧ (iv1 = 0) ∧ (wr1 = 0) ∧ ((q.2.2.1 : Int) = h.1 + 41) ∧ ((q.2.2.2.1 : Int) = h.2.1 + 88652) ∧ (gTs ty9 0 q.2.2) ∧ (gMw ty9 (((fun _ => 16, fun _ => 0, fun _ => 0, fun _ => 0, fun _ => 0, fun _ => 0, fun _ => -1), (0, 0, 0, fun _ => 0)) : gSS) q.2.2) ∧ (gRn 64 ty9 10 (fun i9 => eZz ((i9 : Nat) : Int)) q.2.2) ∧ gUq ty9) := by
  intro fu
  induction fu with
  | zero => intro ty1732 h1731  hm; exact absurd hm (Nat.not_lt_zero _)
  | succ fu ihlp1730 =>
    intro ty1732 h1731  lp1730m lp1730G lp1730u lp1730c0 lp1730c1 lp1730c2 lp1730c3 lp1730c4 lp1730c5 lp1730c6 lp1730c7 lp1730c8 lp1730c9 lp1730c10 lp1730c11 lp1730c12 lp1730c13 lp1730c14 lp1730c15 lp1730c16 lp1730c17 lp1730c18 lp1730c19 lp1730c20 lp1730c21 lp1730c22 lp1730c23 lp1730c24 lp1730c25 lp1730c26 lp1730c27 lp1730c28 lp1730f0 lp1730f1 lp1730k0 lp1730k1 lp1730k2 lp1730k3 lp1730k4 lp1730k5 lp1730k6 lp1730k7 lp1730k8 lp1730k9 lp1730k10 lp1730k11 lp1730k12 lp1730k13 lp1730k14 lp1730k15 lp1730k16 lp1730k17 lp1730k18 lp1730k19 lp1730k20 lp1730k21 lp1730k22 lp1730k23 lp1730k24 lp1730k25 lp1730k26 lp1730k27 lp1730k28 lp1730k29 lp1730k30 lp1730k31 lp1730k32 lp1730w0 lp1730w1 lp1730w2 lp1730w3
    have sh1731 : gSs rT 1027 ty1732 [8999, 10999, 31999] h1731 h1731 := gSs.rf lp1730G.1
    refine gz_s 2 (pc' := 228) (L' := [some (.ref x), none, none, none, none]) (S' := [.int (zi 10), .ref x]) rfl ?_
    refine gs_newr 30 rfl (by decide) rfl sh1731.1 (Nat.le_of_lt (Nat.lt_of_le_of_lt (gJ.cell sh1731.1 lp1730c1 rfl).1 (gJ.cell sh1731.1 lp1730c1 rfl).2.1)) (by omega) (by omega) rfl rfl (by show (10 : Int) ≤ _; omega) (by show _ ≤ (10 : Int); omega) (fun _ _ => gos_i (by decide) (by decide)) (fun ty1733 h1734 c1735 g1736 tc1735 lc1735 nc1735 mc1735 ec1735 dc1735 uc1735 => ?_)
    have gac1735 : h.1 ≤ c1735 := by have h8 := lp1730G.2.1; have h9 := sh1731.2.1; omega
    have uq1737 := uc1735 lp1730u (Or.inr (gNo.sub (by decide +kernel) lp1730k28))
    have G1738 : gSg [1, 2, 3, 4, 5, 6, 7, 8, 9, 10, 11, 12, 13, 14, 15, 16, 17, 18, 19, 20, 21, 22, 23, 24, 25, 26, 27, 28, 29, 30, 31, 32, 33, 34, 35, 36, 37, 38, 39, 40, 41, 42, 200] [x] [8999, 10999, 31999] ty h ty1733 h1734 := gSg.tr (gSg.ss lp1730G sh1731 (by decide)) g1736 (by decide) (by decide) (fun x hx => by cases hx)
    have rw1739 := gSg.raw g1736 lp1730w0 (fun w => by cases w)
    have rf1740 := (rw1739.2.2.1.trans lp1730w1)
    have rf1741 := (rw1739.2.2.2.trans lp1730w2)
    have dd1742 := gSg.rawd (ci := 12) (ps := [56, 55, 54, 49, 40, 38, 37, 36, 35, 34, 33, 32, 31, 30, 29, 28, 27, 26, 25, 15, 14, 13, 12, 11, 10, 9, 4, 2]) g1736 lp1730w0 (fun w => by cases w) lp1730c0 (by decide) lp1730w3
    have t1743 : ty1733 x = 200 := rw1739.1.trans lp1730c0
    have t1744 : ty1733 c3 = 2 := gSg.typ g1736 sh1731.1 lp1730c1 rTk_2
    have t1745 : ty1733 c23 = 3 := gSg.typ g1736 sh1731.1 lp1730c2 rTk_3
    have t1746 : ty1733 c46 = 4 := gSg.typ g1736 sh1731.1 lp1730c3 rTk_4
    have t1747 : ty1733 c72 = 5 := gSg.typ g1736 sh1731.1 lp1730c4 rTk_5
    have t1748 : ty1733 c101 = 6 := gSg.typ g1736 sh1731.1 lp1730c5 rTk_6
    have t1749 : ty1733 c133 = 7 := gSg.typ g1736 sh1731.1 lp1730c6 rTk_7
    have t1750 : ty1733 c171 = 8 := gSg.typ g1736 sh1731.1 lp1730c7 rTk_8
    have t1751 : ty1733 c209 = 9 := gSg.typ g1736 sh1731.1 lp1730c8 rTk_9
    have t1752 : ty1733 c250 = 10 := gSg.typ g1736 sh1731.1 lp1730c9 rTk_10
    have t1753 : ty1733 c294 = 11 := gSg.typ g1736 sh1731.1 lp1730c10 rTk_11
    have t1754 : ty1733 c341 = 12 := gSg.typ g1736 sh1731.1 lp1730c11 rTk_12
    have t1755 : ty1733 c391 = 13 := gSg.typ g1736 sh1731.1 lp1730c12 rTk_13
    have t1756 : ty1733 c447 = 14 := gSg.typ g1736 sh1731.1 lp1730c13 rTk_14
    have t1757 : ty1733 c503 = 15 := gSg.typ g1736 sh1731.1 lp1730c14 rTk_15
    have t1758 : ty1733 c562 = 16 := gSg.typ g1736 sh1731.1 lp1730c15 rTk_16
    have t1759 : ty1733 c624 = 17 := gSg.typ g1736 sh1731.1 lp1730c16 rTk_17
    have t1760 : ty1733 c689 = 18 := gSg.typ g1736 sh1731.1 lp1730c17 rTk_18
    have t1761 : ty1733 c760 = 19 := gSg.typ g1736 sh1731.1 lp1730c18 rTk_19
    have t1762 : ty1733 c831 = 20 := gSg.typ g1736 sh1731.1 lp1730c19 rTk_20
    have t1763 : ty1733 c905 = 21 := gSg.typ g1736 sh1731.1 lp1730c20 rTk_21
    have t1764 : ty1733 c982 = 22 := gSg.typ g1736 sh1731.1 lp1730c21 rTk_22
    have t1765 : ty1733 c1065 = 23 := gSg.typ g1736 sh1731.1 lp1730c22 rTk_23
    have t1766 : ty1733 c1148 = 24 := gSg.typ g1736 sh1731.1 lp1730c23 rTk_24
    have t1767 : ty1733 c1234 = 25 := gSg.typ g1736 sh1731.1 lp1730c24 rTk_25
    have t1768 : ty1733 c1323 = 26 := gSg.typ g1736 sh1731.1 lp1730c25 rTk_26
    have t1769 : ty1733 c1420 = 27 := gSg.typ g1736 sh1731.1 lp1730c26 rTk_27
    have t1770 : ty1733 c1519 = 28 := gSg.typ g1736 sh1731.1 lp1730c27 rTk_28
    have t1771 : ty1733 c1623 = 29 := gSg.typ g1736 sh1731.1 lp1730c28 rTk_29
    have s1772 := gSg.rawat g1736 lp1730w0 (fun w => by cases w) lp1730c0 (by decide) lp1730k0
    have s1773 := gSg.rawat g1736 lp1730w0 (fun w => by cases w) lp1730c0 (by decide) lp1730k1
    have s1774 := gSg.rawat g1736 lp1730w0 (fun w => by cases w) lp1730c0 (by decide) lp1730k2
    have s1775 := gSg.rawat g1736 lp1730w0 (fun w => by cases w) lp1730c0 (by decide) lp1730k3
    have s1776 := gSg.rawat g1736 lp1730w0 (fun w => by cases w) lp1730c0 (by decide) lp1730k4
    have s1777 := gSg.rawat g1736 lp1730w0 (fun w => by cases w) lp1730c0 (by decide) lp1730k5
    have s1778 := gSg.rawat g1736 lp1730w0 (fun w => by cases w) lp1730c0 (by decide) lp1730k6
    have s1779 := gSg.rawat g1736 lp1730w0 (fun w => by cases w) lp1730c0 (by decide) lp1730k7
    have s1780 := gSg.rawat g1736 lp1730w0 (fun w => by cases w) lp1730c0 (by decide) lp1730k8
    have s1781 := gSg.rawat g1736 lp1730w0 (fun w => by cases w) lp1730c0 (by decide) lp1730k9
    have s1782 := gSg.rawat g1736 lp1730w0 (fun w => by cases w) lp1730c0 (by decide) lp1730k10
    have s1783 := gSg.rawat g1736 lp1730w0 (fun w => by cases w) lp1730c0 (by decide) lp1730k11
    have s1784 := gSg.rawat g1736 lp1730w0 (fun w => by cases w) lp1730c0 (by decide) lp1730k12
    have s1785 := gSg.rawat g1736 lp1730w0 (fun w => by cases w) lp1730c0 (by decide) lp1730k13
    have s1786 := gSg.rawat g1736 lp1730w0 (fun w => by cases w) lp1730c0 (by decide) lp1730k14
    have s1787 := gSg.rawat g1736 lp1730w0 (fun w => by cases w) lp1730c0 (by decide) lp1730k15
    have s1788 := gSg.rawat g1736 lp1730w0 (fun w => by cases w) lp1730c0 (by decide) lp1730k16
    have s1789 := gSg.rawat g1736 lp1730w0 (fun w => by cases w) lp1730c0 (by decide) lp1730k17
    have s1790 := gSg.rawat g1736 lp1730w0 (fun w => by cases w) lp1730c0 (by decide) lp1730k18
    have s1791 := gSg.rawat g1736 lp1730w0 (fun w => by cases w) lp1730c0 (by decide) lp1730k19
    have s1792 := gSg.rawat g1736 lp1730w0 (fun w => by cases w) lp1730c0 (by decide) lp1730k20
    have s1793 := gSg.rawat g1736 lp1730w0 (fun w => by cases w) lp1730c0 (by decide) lp1730k21
    have s1794 := gSg.rawat g1736 lp1730w0 (fun w => by cases w) lp1730c0 (by decide) lp1730k22
    have s1795 := gSg.rawat g1736 lp1730w0 (fun w => by cases w) lp1730c0 (by decide) lp1730k23
    have s1796 := gSg.rawat g1736 lp1730w0 (fun w => by cases w) lp1730c0 (by decide) lp1730k24
    have s1797 := gSg.rawat g1736 lp1730w0 (fun w => by cases w) lp1730c0 (by decide) lp1730k25
    have s1798 := gSg.rawat g1736 lp1730w0 (fun w => by cases w) lp1730c0 (by decide) lp1730k26
    have s1799 := gSg.rawat g1736 lp1730w0 (fun w => by cases w) lp1730c0 (by decide) lp1730k27
    have pr1800 : gNo [1, 31, 32, 33, 34, 35, 36, 37, 38, 39, 40, 41, 42] ty1733 := gNo.gr g1736 (by decide +kernel) (gNo.sub (by decide +kernel) lp1730k28)
    have pr1801 := gRn.gr g1736 sh1731.1 rfl (by decide) (by decide) lp1730k29
    have pr1802 := gRn.gr g1736 sh1731.1 rfl (by decide) (by decide) lp1730k30
    have pr1803 := gRn.gr g1736 sh1731.1 rfl (by decide) (by decide) lp1730k31
    have pr1804 := gRn.gr g1736 sh1731.1 rfl (by decide) (by decide) lp1730k32
    have sS1805 : gSs rT 1027 ty1733 [8999, 10999, 31999] h1734 h1734 := gSs.rf g1736.1
    have hoz1806 : gRn 10 ty1733 30 (fun _ => 0) h1734 := gRn.new uq1737 tc1735 (by decide) (fun _ => rfl) (fun k => dc1735 k)
    refine gs_rput rfl (by decide) rfl sS1805.1 t1743 nx rw1739.2.1 rf1740 rfl (Or.inr rfl) (fun h1807 g1808 nh1807 mh1807 kh1807 zh1807 eh1807 fh1807 => ?_)
    have G1809 : gSg [1, 2, 3, 4, 5, 6, 7, 8, 9, 10, 11, 12, 13, 14, 15, 16, 17, 18, 19, 20, 21, 22, 23, 24, 25, 26, 27, 28, 29, 30, 31, 32, 33, 34, 35, 36, 37, 38, 39, 40, 41, 42, 200] [x] [8999, 10999, 31999] ty h ty1733 h1807 := gSg.tr (gSg.ss G1738 sS1805 (by decide)) g1808 (by decide) (by decide) (fun x hx => Or.inr hx)
    have pr1810 := gRn.gr g1808 sS1805.1 rfl (by decide) (by decide) pr1801
    have pr1811 := gRn.gr g1808 sS1805.1 rfl (by decide) (by decide) pr1802
    have pr1812 := gRn.gr g1808 sS1805.1 rfl (by decide) (by decide) pr1803
    have pr1813 := gRn.gr g1808 sS1805.1 rfl (by decide) (by decide) pr1804
    have pr1814 := gRn.gr g1808 sS1805.1 rfl (by decide) (by decide) hoz1806
    have sS1815 : gSs rT 1027 ty1733 [8999, 10999, 31999] h1807 h1807 := gSs.rf g1808.1
    have rf1816 := Nat.lt_of_lt_of_eq rw1739.2.1 nh1807.symm
    have rf1817 := zh1807.trans rf1741
    have dd1818 : ∀ k, ¬ k ∈ ([57, 56, 55, 54, 49, 40, 38, 37, 36, 35, 34, 33, 32, 31, 30, 29, 28, 27, 26, 25, 15, 14, 13, 12, 11, 10, 9, 4, 2] : List Nat) → h1807.2.2.2.2 x k = defaultValue (gGG.2.1 12 k) := raw_dp fh1807 dd1742
    have s1819 := (fh1807 2 (by decide)).trans s1772
    have s1820 := (fh1807 4 (by decide)).trans s1773
    have s1821 := (fh1807 9 (by decide)).trans s1774
    have s1822 := (fh1807 10 (by decide)).trans s1775
    have s1823 := (fh1807 11 (by decide)).trans s1776
    have s1824 := (fh1807 12 (by decide)).trans s1777
    have s1825 := (fh1807 13 (by decide)).trans s1778
    have s1826 := (fh1807 14 (by decide)).trans s1779
    have s1827 := (fh1807 15 (by decide)).trans s1780
    have s1828 := (fh1807 25 (by decide)).trans s1781
    have s1829 := (fh1807 26 (by decide)).trans s1782
    have s1830 := (fh1807 27 (by decide)).trans s1783
    have s1831 := (fh1807 28 (by decide)).trans s1784
    have s1832 := (fh1807 29 (by decide)).trans s1785
    have s1833 := (fh1807 30 (by decide)).trans s1786
    have s1834 := (fh1807 31 (by decide)).trans s1787
    have s1835 := (fh1807 32 (by decide)).trans s1788
    have s1836 := (fh1807 33 (by decide)).trans s1789
    have s1837 := (fh1807 34 (by decide)).trans s1790
    have s1838 := (fh1807 35 (by decide)).trans s1791
    have s1839 := (fh1807 36 (by decide)).trans s1792
    have s1840 := (fh1807 37 (by decide)).trans s1793
    have s1841 := (fh1807 38 (by decide)).trans s1794
    have s1842 := (fh1807 40 (by decide)).trans s1795
    have s1843 := (fh1807 49 (by decide)).trans s1796
    have s1844 := (fh1807 54 (by decide)).trans s1797
    have s1845 := (fh1807 55 (by decide)).trans s1798
    have s1846 := (fh1807 56 (by decide)).trans s1799
    clear G1738 dd1742 pr1801 pr1802 pr1803 pr1804 rf1740 rf1741 rw1739 s1772 s1773 s1774 s1775 s1776 s1777 s1778 s1779 s1780 s1781 s1782 s1783 s1784 s1785 s1786 s1787 s1788 s1789 s1790 s1791 s1792 s1793 s1794 s1795 s1796 s1797 s1798 s1799 sS1805
    refine gz_s 2 (pc' := 236) (L' := [some (.ref x), none, none, none, none]) (S' := [.int (zi 64), .ref x]) rfl ?_
    refine gs_newr 31 rfl (by decide) rfl sS1815.1 (Nat.le_of_lt (Nat.lt_of_le_of_lt (gJ.cell sS1815.1 t1744 rfl).1 (gJ.cell sS1815.1 t1744 rfl).2.1)) (by omega) (by omega) rfl rfl (by show (64 : Int) ≤ _; omega) (by show _ ≤ (64 : Int); omega) (fun _ _ => gos_i (by decide) (by decide)) (fun ty1847 h1848 c1849 g1850 tc1849 lc1849 nc1849 mc1849 ec1849 dc1849 uc1849 => ?_)
    have gac1849 : h.1 ≤ c1849 := by have h8 := G1809.2.1; have h9 := sS1815.2.1; omega
    have uq1851 := uc1849 uq1737 (Or.inr (gNo.sub (by decide +kernel) pr1800))
    have G1852 : gSg [1, 2, 3, 4, 5, 6, 7, 8, 9, 10, 11, 12, 13, 14, 15, 16, 17, 18, 19, 20, 21, 22, 23, 24, 25, 26, 27, 28, 29, 30, 31, 32, 33, 34, 35, 36, 37, 38, 39, 40, 41, 42, 200] [x] [8999, 10999, 31999] ty h ty1847 h1848 := gSg.tr (gSg.ss G1809 sS1815 (by decide)) g1850 (by decide) (by decide) (fun x hx => by cases hx)
    have rw1853 := gSg.raw g1850 rf1816 (fun w => by cases w)
    have rf1854 := (rw1853.2.2.1.trans kh1807)
    have rf1855 := (rw1853.2.2.2.trans rf1817)
    have dd1856 := gSg.rawd (ci := 12) (ps := [57, 56, 55, 54, 49, 40, 38, 37, 36, 35, 34, 33, 32, 31, 30, 29, 28, 27, 26, 25, 15, 14, 13, 12, 11, 10, 9, 4, 2]) g1850 rf1816 (fun w => by cases w) t1743 (by decide) dd1818
    have t1857 : ty1847 x = 200 := rw1853.1.trans t1743
    have t1858 : ty1847 c3 = 2 := gSg.typ g1850 sS1815.1 t1744 rTk_2
    have t1859 : ty1847 c23 = 3 := gSg.typ g1850 sS1815.1 t1745 rTk_3
    have t1860 : ty1847 c46 = 4 := gSg.typ g1850 sS1815.1 t1746 rTk_4
    have t1861 : ty1847 c72 = 5 := gSg.typ g1850 sS1815.1 t1747 rTk_5
    have t1862 : ty1847 c101 = 6 := gSg.typ g1850 sS1815.1 t1748 rTk_6
    have t1863 : ty1847 c133 = 7 := gSg.typ g1850 sS1815.1 t1749 rTk_7
    have t1864 : ty1847 c171 = 8 := gSg.typ g1850 sS1815.1 t1750 rTk_8
    have t1865 : ty1847 c209 = 9 := gSg.typ g1850 sS1815.1 t1751 rTk_9
    have t1866 : ty1847 c250 = 10 := gSg.typ g1850 sS1815.1 t1752 rTk_10
    have t1867 : ty1847 c294 = 11 := gSg.typ g1850 sS1815.1 t1753 rTk_11
    have t1868 : ty1847 c341 = 12 := gSg.typ g1850 sS1815.1 t1754 rTk_12
    have t1869 : ty1847 c391 = 13 := gSg.typ g1850 sS1815.1 t1755 rTk_13
    have t1870 : ty1847 c447 = 14 := gSg.typ g1850 sS1815.1 t1756 rTk_14
    have t1871 : ty1847 c503 = 15 := gSg.typ g1850 sS1815.1 t1757 rTk_15
    have t1872 : ty1847 c562 = 16 := gSg.typ g1850 sS1815.1 t1758 rTk_16
    have t1873 : ty1847 c624 = 17 := gSg.typ g1850 sS1815.1 t1759 rTk_17
    have t1874 : ty1847 c689 = 18 := gSg.typ g1850 sS1815.1 t1760 rTk_18
    have t1875 : ty1847 c760 = 19 := gSg.typ g1850 sS1815.1 t1761 rTk_19
    have t1876 : ty1847 c831 = 20 := gSg.typ g1850 sS1815.1 t1762 rTk_20
    have t1877 : ty1847 c905 = 21 := gSg.typ g1850 sS1815.1 t1763 rTk_21
    have t1878 : ty1847 c982 = 22 := gSg.typ g1850 sS1815.1 t1764 rTk_22
    have t1879 : ty1847 c1065 = 23 := gSg.typ g1850 sS1815.1 t1765 rTk_23
    have t1880 : ty1847 c1148 = 24 := gSg.typ g1850 sS1815.1 t1766 rTk_24
    have t1881 : ty1847 c1234 = 25 := gSg.typ g1850 sS1815.1 t1767 rTk_25
    have t1882 : ty1847 c1323 = 26 := gSg.typ g1850 sS1815.1 t1768 rTk_26
    have t1883 : ty1847 c1420 = 27 := gSg.typ g1850 sS1815.1 t1769 rTk_27
    have t1884 : ty1847 c1519 = 28 := gSg.typ g1850 sS1815.1 t1770 rTk_28
    have t1885 : ty1847 c1623 = 29 := gSg.typ g1850 sS1815.1 t1771 rTk_29
    have t1886 : ty1847 c1735 = 30 := gSg.typ g1850 sS1815.1 tc1735 rTk_30
    have s1887 := gSg.rawat g1850 rf1816 (fun w => by cases w) t1743 (by decide) s1819
    have s1888 := gSg.rawat g1850 rf1816 (fun w => by cases w) t1743 (by decide) s1820
    have s1889 := gSg.rawat g1850 rf1816 (fun w => by cases w) t1743 (by decide) s1821
    have s1890 := gSg.rawat g1850 rf1816 (fun w => by cases w) t1743 (by decide) s1822
    have s1891 := gSg.rawat g1850 rf1816 (fun w => by cases w) t1743 (by decide) s1823
    have s1892 := gSg.rawat g1850 rf1816 (fun w => by cases w) t1743 (by decide) s1824
    have s1893 := gSg.rawat g1850 rf1816 (fun w => by cases w) t1743 (by decide) s1825
    have s1894 := gSg.rawat g1850 rf1816 (fun w => by cases w) t1743 (by decide) s1826
    have s1895 := gSg.rawat g1850 rf1816 (fun w => by cases w) t1743 (by decide) s1827
    have s1896 := gSg.rawat g1850 rf1816 (fun w => by cases w) t1743 (by decide) s1828
    have s1897 := gSg.rawat g1850 rf1816 (fun w => by cases w) t1743 (by decide) s1829
    have s1898 := gSg.rawat g1850 rf1816 (fun w => by cases w) t1743 (by decide) s1830
    have s1899 := gSg.rawat g1850 rf1816 (fun w => by cases w) t1743 (by decide) s1831
    have s1900 := gSg.rawat g1850 rf1816 (fun w => by cases w) t1743 (by decide) s1832
    have s1901 := gSg.rawat g1850 rf1816 (fun w => by cases w) t1743 (by decide) s1833
    have s1902 := gSg.rawat g1850 rf1816 (fun w => by cases w) t1743 (by decide) s1834
    have s1903 := gSg.rawat g1850 rf1816 (fun w => by cases w) t1743 (by decide) s1835
    have s1904 := gSg.rawat g1850 rf1816 (fun w => by cases w) t1743 (by decide) s1836
    have s1905 := gSg.rawat g1850 rf1816 (fun w => by cases w) t1743 (by decide) s1837
    have s1906 := gSg.rawat g1850 rf1816 (fun w => by cases w) t1743 (by decide) s1838
    have s1907 := gSg.rawat g1850 rf1816 (fun w => by cases w) t1743 (by decide) s1839
    have s1908 := gSg.rawat g1850 rf1816 (fun w => by cases w) t1743 (by decide) s1840
    have s1909 := gSg.rawat g1850 rf1816 (fun w => by cases w) t1743 (by decide) s1841
    have s1910 := gSg.rawat g1850 rf1816 (fun w => by cases w) t1743 (by decide) s1842
    have s1911 := gSg.rawat g1850 rf1816 (fun w => by cases w) t1743 (by decide) s1843
    have s1912 := gSg.rawat g1850 rf1816 (fun w => by cases w) t1743 (by decide) s1844
    have s1913 := gSg.rawat g1850 rf1816 (fun w => by cases w) t1743 (by decide) s1845
    have s1914 := gSg.rawat g1850 rf1816 (fun w => by cases w) t1743 (by decide) s1846
    have s1915 := gSg.rawat g1850 rf1816 (fun w => by cases w) t1743 (by decide) eh1807
    have pr1916 : gNo [1, 32, 33, 34, 35, 36, 37, 38, 39, 40, 41, 42] ty1847 := gNo.gr g1850 (by decide +kernel) (gNo.sub (by decide +kernel) pr1800)
    have pr1917 := gRn.gr g1850 sS1815.1 rfl (by decide) (by decide) pr1810
    have pr1918 := gRn.gr g1850 sS1815.1 rfl (by decide) (by decide) pr1811
    have pr1919 := gRn.gr g1850 sS1815.1 rfl (by decide) (by decide) pr1812
    have pr1920 := gRn.gr g1850 sS1815.1 rfl (by decide) (by decide) pr1813
    have pr1921 := gRn.gr g1850 sS1815.1 rfl (by decide) (by decide) pr1814
    have sS1922 : gSs rT 1027 ty1847 [8999, 10999, 31999] h1848 h1848 := gSs.rf g1850.1
    clear G1809 dd1818 pr1800 pr1810 pr1811 pr1812 pr1813 pr1814 rf1816 rf1817 s1819 s1820 s1821 s1822 s1823 s1824 s1825 s1826 s1827 s1828 s1829 s1830 s1831 s1832 s1833 s1834 s1835 s1836 s1837 s1838 s1839 s1840 s1841 s1842 s1843 s1844 s1845 s1846 sS1815 t1744 t1745 t1746 t1747 t1748 t1749 t1750 t1751 t1752 t1753 t1754 t1755 t1756 t1757 t1758 t1759 t1760 t1761 t1762 t1763 t1764 t1765 t1766 t1767 t1768 t1769 t1770 t1771 uq1737
    refine gs_rput rfl (by decide) rfl sS1922.1 t1857 nx rw1853.2.1 rf1854 rfl (Or.inr rfl) (fun h1923 g1924 nh1923 mh1923 kh1923 zh1923 eh1923 fh1923 => ?_)
    have G1925 : gSg [1, 2, 3, 4, 5, 6, 7, 8, 9, 10, 11, 12, 13, 14, 15, 16, 17, 18, 19, 20, 21, 22, 23, 24, 25, 26, 27, 28, 29, 30, 31, 32, 33, 34, 35, 36, 37, 38, 39, 40, 41, 42, 200] [x] [8999, 10999, 31999] ty h ty1847 h1923 := gSg.tr (gSg.ss G1852 sS1922 (by decide)) g1924 (by decide) (by decide) (fun x hx => Or.inr hx)
    have pr1926 := gRn.gr g1924 sS1922.1 rfl (by decide) (by decide) pr1917
    have pr1927 := gRn.gr g1924 sS1922.1 rfl (by decide) (by decide) pr1918
    have pr1928 := gRn.gr g1924 sS1922.1 rfl (by decide) (by decide) pr1919
    have pr1929 := gRn.gr g1924 sS1922.1 rfl (by decide) (by decide) pr1920
    have pr1930 := gRn.gr g1924 sS1922.1 rfl (by decide) (by decide) pr1921
    have sS1931 : gSs rT 1027 ty1847 [8999, 10999, 31999] h1923 h1923 := gSs.rf g1924.1
    have rf1932 := Nat.lt_of_lt_of_eq rw1853.2.1 nh1923.symm
    have rf1933 := zh1923.trans rf1855
    have dd1934 : ∀ k, ¬ k ∈ ([58, 57, 56, 55, 54, 49, 40, 38, 37, 36, 35, 34, 33, 32, 31, 30, 29, 28, 27, 26, 25, 15, 14, 13, 12, 11, 10, 9, 4, 2] : List Nat) → h1923.2.2.2.2 x k = defaultValue (gGG.2.1 12 k) := raw_dp fh1923 dd1856
    have s1935 := (fh1923 2 (by decide)).trans s1887
    have s1936 := (fh1923 4 (by decide)).trans s1888
    have s1937 := (fh1923 9 (by decide)).trans s1889
    have s1938 := (fh1923 10 (by decide)).trans s1890
    have s1939 := (fh1923 11 (by decide)).trans s1891
    have s1940 := (fh1923 12 (by decide)).trans s1892
    have s1941 := (fh1923 13 (by decide)).trans s1893
    have s1942 := (fh1923 14 (by decide)).trans s1894
    have s1943 := (fh1923 15 (by decide)).trans s1895
    have s1944 := (fh1923 25 (by decide)).trans s1896
    have s1945 := (fh1923 26 (by decide)).trans s1897
    have s1946 := (fh1923 27 (by decide)).trans s1898
    have s1947 := (fh1923 28 (by decide)).trans s1899
    have s1948 := (fh1923 29 (by decide)).trans s1900
    have s1949 := (fh1923 30 (by decide)).trans s1901
    have s1950 := (fh1923 31 (by decide)).trans s1902
    have s1951 := (fh1923 32 (by decide)).trans s1903
    have s1952 := (fh1923 33 (by decide)).trans s1904
    have s1953 := (fh1923 34 (by decide)).trans s1905
    have s1954 := (fh1923 35 (by decide)).trans s1906
    have s1955 := (fh1923 36 (by decide)).trans s1907
    have s1956 := (fh1923 37 (by decide)).trans s1908
    have s1957 := (fh1923 38 (by decide)).trans s1909
    have s1958 := (fh1923 40 (by decide)).trans s1910
    have s1959 := (fh1923 49 (by decide)).trans s1911
    have s1960 := (fh1923 54 (by decide)).trans s1912
    have s1961 := (fh1923 55 (by decide)).trans s1913
    have s1962 := (fh1923 56 (by decide)).trans s1914
    have s1963 := (fh1923 57 (by decide)).trans s1915
    clear G1852 dd1856 pr1917 pr1918 pr1919 pr1920 pr1921 rf1854 rf1855 rw1853 s1887 s1888 s1889 s1890 s1891 s1892 s1893 s1894 s1895 s1896 s1897 s1898 s1899 s1900 s1901 s1902 s1903 s1904 s1905 s1906 s1907 s1908 s1909 s1910 s1911 s1912 s1913 s1914 s1915 sS1922
    refine gz_s 1 (pc' := 242) (L' := [some (.ref x), none, none, none, none]) (S' := [.ref x]) rfl ?_
    refine gz_1 rfl (by decide) rfl rfl (pc' := 244) (S' := [.int (zi 60000), .ref x]) (h' := h1923) rfl ?_
    refine gs_newr 32 rfl (by decide) rfl sS1931.1 (Nat.le_of_lt (Nat.lt_of_le_of_lt (gJ.cell sS1931.1 t1858 rfl).1 (gJ.cell sS1931.1 t1858 rfl).2.1)) (by omega) (by omega) rfl rfl (by show (60000 : Int) ≤ _; omega) (by show _ ≤ (60000 : Int); omega) (fun _ _ => gos_i (by decide) (by decide)) (fun ty1964 h1965 c1966 g1967 tc1966 lc1966 nc1966 mc1966 ec1966 dc1966 uc1966 => ?_)
    have gac1966 : h.1 ≤ c1966 := by have h8 := G1925.2.1; have h9 := sS1931.2.1; omega
    have uq1968 := uc1966 uq1851 (Or.inr (gNo.sub (by decide +kernel) pr1916))
    have G1969 : gSg [1, 2, 3, 4, 5, 6, 7, 8, 9, 10, 11, 12, 13, 14, 15, 16, 17, 18, 19, 20, 21, 22, 23, 24, 25, 26, 27, 28, 29, 30, 31, 32, 33, 34, 35, 36, 37, 38, 39, 40, 41, 42, 200] [x] [8999, 10999, 31999] ty h ty1964 h1965 := gSg.tr (gSg.ss G1925 sS1931 (by decide)) g1967 (by decide) (by decide) (fun x hx => by cases hx)
    have rw1970 := gSg.raw g1967 rf1932 (fun w => by cases w)
    have rf1971 := (rw1970.2.2.1.trans kh1923)
    have rf1972 := (rw1970.2.2.2.trans rf1933)
    have dd1973 := gSg.rawd (ci := 12) (ps := [58, 57, 56, 55, 54, 49, 40, 38, 37, 36, 35, 34, 33, 32, 31, 30, 29, 28, 27, 26, 25, 15, 14, 13, 12, 11, 10, 9, 4, 2]) g1967 rf1932 (fun w => by cases w) t1857 (by decide) dd1934
    have t1974 : ty1964 x = 200 := rw1970.1.trans t1857
    have t1975 : ty1964 c3 = 2 := gSg.typ g1967 sS1931.1 t1858 rTk_2
    have t1976 : ty1964 c23 = 3 := gSg.typ g1967 sS1931.1 t1859 rTk_3
    have t1977 : ty1964 c46 = 4 := gSg.typ g1967 sS1931.1 t1860 rTk_4
    have t1978 : ty1964 c72 = 5 := gSg.typ g1967 sS1931.1 t1861 rTk_5
    have t1979 : ty1964 c101 = 6 := gSg.typ g1967 sS1931.1 t1862 rTk_6
    have t1980 : ty1964 c133 = 7 := gSg.typ g1967 sS1931.1 t1863 rTk_7
    have t1981 : ty1964 c171 = 8 := gSg.typ g1967 sS1931.1 t1864 rTk_8
    have t1982 : ty1964 c209 = 9 := gSg.typ g1967 sS1931.1 t1865 rTk_9
    have t1983 : ty1964 c250 = 10 := gSg.typ g1967 sS1931.1 t1866 rTk_10
    have t1984 : ty1964 c294 = 11 := gSg.typ g1967 sS1931.1 t1867 rTk_11
    have t1985 : ty1964 c341 = 12 := gSg.typ g1967 sS1931.1 t1868 rTk_12
    have t1986 : ty1964 c391 = 13 := gSg.typ g1967 sS1931.1 t1869 rTk_13
    have t1987 : ty1964 c447 = 14 := gSg.typ g1967 sS1931.1 t1870 rTk_14
    have t1988 : ty1964 c503 = 15 := gSg.typ g1967 sS1931.1 t1871 rTk_15
    have t1989 : ty1964 c562 = 16 := gSg.typ g1967 sS1931.1 t1872 rTk_16
    have t1990 : ty1964 c624 = 17 := gSg.typ g1967 sS1931.1 t1873 rTk_17
    have t1991 : ty1964 c689 = 18 := gSg.typ g1967 sS1931.1 t1874 rTk_18
    have t1992 : ty1964 c760 = 19 := gSg.typ g1967 sS1931.1 t1875 rTk_19
    have t1993 : ty1964 c831 = 20 := gSg.typ g1967 sS1931.1 t1876 rTk_20
    have t1994 : ty1964 c905 = 21 := gSg.typ g1967 sS1931.1 t1877 rTk_21
    have t1995 : ty1964 c982 = 22 := gSg.typ g1967 sS1931.1 t1878 rTk_22
    have t1996 : ty1964 c1065 = 23 := gSg.typ g1967 sS1931.1 t1879 rTk_23
    have t1997 : ty1964 c1148 = 24 := gSg.typ g1967 sS1931.1 t1880 rTk_24
    have t1998 : ty1964 c1234 = 25 := gSg.typ g1967 sS1931.1 t1881 rTk_25
    have t1999 : ty1964 c1323 = 26 := gSg.typ g1967 sS1931.1 t1882 rTk_26
    have t2000 : ty1964 c1420 = 27 := gSg.typ g1967 sS1931.1 t1883 rTk_27
    have t2001 : ty1964 c1519 = 28 := gSg.typ g1967 sS1931.1 t1884 rTk_28
    have t2002 : ty1964 c1623 = 29 := gSg.typ g1967 sS1931.1 t1885 rTk_29
    have t2003 : ty1964 c1735 = 30 := gSg.typ g1967 sS1931.1 t1886 rTk_30
    have t2004 : ty1964 c1849 = 31 := gSg.typ g1967 sS1931.1 tc1849 rTk_31
    have s2005 := gSg.rawat g1967 rf1932 (fun w => by cases w) t1857 (by decide) s1935
    have s2006 := gSg.rawat g1967 rf1932 (fun w => by cases w) t1857 (by decide) s1936
    have s2007 := gSg.rawat g1967 rf1932 (fun w => by cases w) t1857 (by decide) s1937
    have s2008 := gSg.rawat g1967 rf1932 (fun w => by cases w) t1857 (by decide) s1938
    have s2009 := gSg.rawat g1967 rf1932 (fun w => by cases w) t1857 (by decide) s1939
    have s2010 := gSg.rawat g1967 rf1932 (fun w => by cases w) t1857 (by decide) s1940
    have s2011 := gSg.rawat g1967 rf1932 (fun w => by cases w) t1857 (by decide) s1941
    have s2012 := gSg.rawat g1967 rf1932 (fun w => by cases w) t1857 (by decide) s1942
    have s2013 := gSg.rawat g1967 rf1932 (fun w => by cases w) t1857 (by decide) s1943
    have s2014 := gSg.rawat g1967 rf1932 (fun w => by cases w) t1857 (by decide) s1944
    have s2015 := gSg.rawat g1967 rf1932 (fun w => by cases w) t1857 (by decide) s1945
    have s2016 := gSg.rawat g1967 rf1932 (fun w => by cases w) t1857 (by decide) s1946
    have s2017 := gSg.rawat g1967 rf1932 (fun w => by cases w) t1857 (by decide) s1947
    have s2018 := gSg.rawat g1967 rf1932 (fun w => by cases w) t1857 (by decide) s1948
    have s2019 := gSg.rawat g1967 rf1932 (fun w => by cases w) t1857 (by decide) s1949
    have s2020 := gSg.rawat g1967 rf1932 (fun w => by cases w) t1857 (by decide) s1950
    have s2021 := gSg.rawat g1967 rf1932 (fun w => by cases w) t1857 (by decide) s1951
    have s2022 := gSg.rawat g1967 rf1932 (fun w => by cases w) t1857 (by decide) s1952
    have s2023 := gSg.rawat g1967 rf1932 (fun w => by cases w) t1857 (by decide) s1953
    have s2024 := gSg.rawat g1967 rf1932 (fun w => by cases w) t1857 (by decide) s1954
    have s2025 := gSg.rawat g1967 rf1932 (fun w => by cases w) t1857 (by decide) s1955
    have s2026 := gSg.rawat g1967 rf1932 (fun w => by cases w) t1857 (by decide) s1956
    have s2027 := gSg.rawat g1967 rf1932 (fun w => by cases w) t1857 (by decide) s1957
    have s2028 := gSg.rawat g1967 rf1932 (fun w => by cases w) t1857 (by decide) s1958
    have s2029 := gSg.rawat g1967 rf1932 (fun w => by cases w) t1857 (by decide) s1959
    have s2030 := gSg.rawat g1967 rf1932 (fun w => by cases w) t1857 (by decide) s1960
    have s2031 := gSg.rawat g1967 rf1932 (fun w => by cases w) t1857 (by decide) s1961
    have s2032 := gSg.rawat g1967 rf1932 (fun w => by cases w) t1857 (by decide) s1962
    have s2033 := gSg.rawat g1967 rf1932 (fun w => by cases w) t1857 (by decide) s1963
    have s2034 := gSg.rawat g1967 rf1932 (fun w => by cases w) t1857 (by decide) eh1923
    have pr2035 : gNo [1, 33, 34, 35, 36, 37, 38, 39, 40, 41, 42] ty1964 := gNo.gr g1967 (by decide +kernel) (gNo.sub (by decide +kernel) pr1916)
    have pr2036 := gRn.gr g1967 sS1931.1 rfl (by decide) (by decide) pr1926
    have pr2037 := gRn.gr g1967 sS1931.1 rfl (by decide) (by decide) pr1927
    have pr2038 := gRn.gr g1967 sS1931.1 rfl (by decide) (by decide) pr1928
    have pr2039 := gRn.gr g1967 sS1931.1 rfl (by decide) (by decide) pr1929
    have pr2040 := gRn.gr g1967 sS1931.1 rfl (by decide) (by decide) pr1930
    have sS2041 : gSs rT 1027 ty1964 [8999, 10999, 31999] h1965 h1965 := gSs.rf g1967.1
    clear G1925 dd1934 pr1916 pr1926 pr1927 pr1928 pr1929 pr1930 rf1932 rf1933 s1935 s1936 s1937 s1938 s1939 s1940 s1941 s1942 s1943 s1944 s1945 s1946 s1947 s1948 s1949 s1950 s1951 s1952 s1953 s1954 s1955 s1956 s1957 s1958 s1959 s1960 s1961 s1962 s1963 sS1931 t1857 t1858 t1859 t1860 t1861 t1862 t1863 t1864 t1865 t1866 t1867 t1868 t1869 t1870 t1871 t1872 t1873 t1874 t1875 t1876 t1877 t1878 t1879 t1880 t1881 t1882 t1883 t1884 t1885 t1886 uq1851
    refine gs_rput rfl (by decide) rfl sS2041.1 t1974 nx rw1970.2.1 rf1971 rfl (Or.inr rfl) (fun h2042 g2043 nh2042 mh2042 kh2042 zh2042 eh2042 fh2042 => ?_)
    have G2044 : gSg [1, 2, 3, 4, 5, 6, 7, 8, 9, 10, 11, 12, 13, 14, 15, 16, 17, 18, 19, 20, 21, 22, 23, 24, 25, 26, 27, 28, 29, 30, 31, 32, 33, 34, 35, 36, 37, 38, 39, 40, 41, 42, 200] [x] [8999, 10999, 31999] ty h ty1964 h2042 := gSg.tr (gSg.ss G1969 sS2041 (by decide)) g2043 (by decide) (by decide) (fun x hx => Or.inr hx)
    have pr2045 := gRn.gr g2043 sS2041.1 rfl (by decide) (by decide) pr2036
    have pr2046 := gRn.gr g2043 sS2041.1 rfl (by decide) (by decide) pr2037
    have pr2047 := gRn.gr g2043 sS2041.1 rfl (by decide) (by decide) pr2038
    have pr2048 := gRn.gr g2043 sS2041.1 rfl (by decide) (by decide) pr2039
    have pr2049 := gRn.gr g2043 sS2041.1 rfl (by decide) (by decide) pr2040
    have sS2050 : gSs rT 1027 ty1964 [8999, 10999, 31999] h2042 h2042 := gSs.rf g2043.1
    have rf2051 := Nat.lt_of_lt_of_eq rw1970.2.1 nh2042.symm
    have rf2052 := zh2042.trans rf1972
    have dd2053 : ∀ k, ¬ k ∈ ([60, 58, 57, 56, 55, 54, 49, 40, 38, 37, 36, 35, 34, 33, 32, 31, 30, 29, 28, 27, 26, 25, 15, 14, 13, 12, 11, 10, 9, 4, 2] : List Nat) → h2042.2.2.2.2 x k = defaultValue (gGG.2.1 12 k) := raw_dp fh2042 dd1973
    have s2054 := (fh2042 2 (by decide)).trans s2005
    have s2055 := (fh2042 4 (by decide)).trans s2006
    have s2056 := (fh2042 9 (by decide)).trans s2007
    have s2057 := (fh2042 10 (by decide)).trans s2008
    have s2058 := (fh2042 11 (by decide)).trans s2009
    have s2059 := (fh2042 12 (by decide)).trans s2010
    have s2060 := (fh2042 13 (by decide)).trans s2011
    have s2061 := (fh2042 14 (by decide)).trans s2012
    have s2062 := (fh2042 15 (by decide)).trans s2013
    have s2063 := (fh2042 25 (by decide)).trans s2014
    have s2064 := (fh2042 26 (by decide)).trans s2015
    have s2065 := (fh2042 27 (by decide)).trans s2016
    have s2066 := (fh2042 28 (by decide)).trans s2017
    have s2067 := (fh2042 29 (by decide)).trans s2018
    have s2068 := (fh2042 30 (by decide)).trans s2019
    have s2069 := (fh2042 31 (by decide)).trans s2020
    have s2070 := (fh2042 32 (by decide)).trans s2021
    have s2071 := (fh2042 33 (by decide)).trans s2022
    have s2072 := (fh2042 34 (by decide)).trans s2023
    have s2073 := (fh2042 35 (by decide)).trans s2024
    have s2074 := (fh2042 36 (by decide)).trans s2025
    have s2075 := (fh2042 37 (by decide)).trans s2026
    have s2076 := (fh2042 38 (by decide)).trans s2027
    have s2077 := (fh2042 40 (by decide)).trans s2028
    have s2078 := (fh2042 49 (by decide)).trans s2029
    have s2079 := (fh2042 54 (by decide)).trans s2030
    have s2080 := (fh2042 55 (by decide)).trans s2031
    have s2081 := (fh2042 56 (by decide)).trans s2032
    have s2082 := (fh2042 57 (by decide)).trans s2033
    have s2083 := (fh2042 58 (by decide)).trans s2034
    clear G1969 dd1973 pr2036 pr2037 pr2038 pr2039 pr2040 rf1971 rf1972 rw1970 s2005 s2006 s2007 s2008 s2009 s2010 s2011 s2012 s2013 s2014 s2015 s2016 s2017 s2018 s2019 s2020 s2021 s2022 s2023 s2024 s2025 s2026 s2027 s2028 s2029 s2030 s2031 s2032 s2033 s2034 sS2041
    have lp2084 := cmlp2084 d hJ x nx c3 c23 c46 c72 c101 c133 c171 c209 c250 c294 c341 c391 c447 c503 c562 c624 c689 c760 c831 c905 c982 c1065 c1148 c1234 c1323 c1420 c1519 c1623 c1735 c1849 c1966
    have G3752 : gSg [1, 2, 3, 4, 5, 6, 7, 8, 9, 10, 11, 12, 13, 14, 15, 16, 17, 18, 19, 20, 21, 22, 23, 24, 25, 26, 27, 28, 29, 30, 31, 32, 33, 34, 35, 36, 37, 38, 39, 40, 41, 42, 200] [x] [8999, 10999, 31999] ty h ty1964 h2042 := gSg.ss G2044 sS2050 (by decide)
    exact gz_wk (lp2084 _ ty1964 h2042  (Nat.lt_succ_self _) G3752 uq1968 t1974 t1975 t1976 t1977 t1978 t1979 t1980 t1981 t1982 t1983 t1984 t1985 t1986 t1987 t1988 t1989 t1990 t1991 t1992 t1993 t1994 t1995 t1996 t1997 t1998 t1999 t2000 t2001 t2002 t2003 t2004 tc1966 (by omega) (by omega) s2054 s2055 s2056 s2057 s2058 s2059 s2060 s2061 s2062 s2063 s2064 s2065 s2066 s2067 s2068 s2069 s2070 s2071 s2072 s2073 s2074 s2075 s2076 s2077 s2078 s2079 s2080 s2081 s2082 s2083 eh2042 pr2035 pr2045 pr2046 pr2047 pr2048 pr2049 rf2051 kh2042 rf2052 dd2053) (gLw.s (gLw.n (gLw.n (gLw.n (gLw.n gLw.z)))))
set_option maxRecDepth 20000 in
set_option maxHeartbeats 4000000 in
theorem cmlp1415 (d : Nat) {ty : Nat → Nat} {h : gH} (hJ : gJ rT 1027 ty h) (x : Nat) (nx : 1027 ≤ x) (c3 c23 c46 c72 c101 c133 c171 c209 c250 c294 c341 c391 c447 c503 c562 c624 c689 c760 c831 c905 c982 c1065 c1148 c1234 c1323 : Nat) : ∀ (fu : Nat) (ty1417 : Nat → Nat) (h1416 : gH), ((1 : Int)).toNat < fu → gSg [1, 2, 3, 4, 5, 6, 7, 8, 9, 10, 11, 12, 13, 14, 15, 16, 17, 18, 19, 20, 21, 22, 23, 24, 25, 26, 27, 28, 29, 30, 31, 32, 33, 34, 35, 36, 37, 38, 39, 40, 41, 42, 200] [x] [8999, 10999, 31999] ty h ty1417 h1416 → gUq ty1417 → ty1417 x = 200 → ty1417 c3 = 2 → ty1417 c23 = 3 → ty1417 c46 = 4 → ty1417 c72 = 5 → ty1417 c101 = 6 → ty1417 c133 = 7 → ty1417 c171 = 8 → ty1417 c209 = 9 → ty1417 c250 = 10 → ty1417 c294 = 11 → ty1417 c341 = 12 → ty1417 c391 = 13 → ty1417 c447 = 14 → ty1417 c503 = 15 → ty1417 c562 = 16 → ty1417 c624 = 17 → ty1417 c689 = 18 → ty1417 c760 = 19 → ty1417 c831 = 20 → ty1417 c905 = 21 → ty1417 c982 = 22 → ty1417 c1065 = 23 → ty1417 c1148 = 24 → ty1417 c1234 = 25 → ty1417 c1323 = 26 → ((h1416.1 : Int) = h.1 + 25) → ((h1416.2.1 : Int) = h.2.1 + 24295) → h1416.2.2.2.2 x 2 = .ref c3 → h1416.2.2.2.2 x 4 = .ref c23 → h1416.2.2.2.2 x 9 = .ref c46 → h1416.2.2.2.2 x 10 = .ref c72 → h1416.2.2.2.2 x 11 = .ref c101 → h1416.2.2.2.2 x 12 = .ref c133 → h1416.2.2.2.2 x 13 = .ref c171 → h1416.2.2.2.2 x 14 = .ref c209 → h1416.2.2.2.2 x 15 = .ref c250 → h1416.2.2.2.2 x 25 = .ref c294 → h1416.2.2.2.2 x 26 = .ref c341 → h1416.2.2.2.2 x 27 = .ref c391 → h1416.2.2.2.2 x 28 = .ref c447 → h1416.2.2.2.2 x 29 = .ref c503 → h1416.2.2.2.2 x 30 = .ref c562 → h1416.2.2.2.2 x 31 = .ref c624 → h1416.2.2.2.2 x 32 = .ref c689 → h1416.2.2.2.2 x 33 = .ref c760 → h1416.2.2.2.2 x 34 = .ref c831 → h1416.2.2.2.2 x 35 = .ref c905 → h1416.2.2.2.2 x 36 = .ref c982 → h1416.2.2.2.2 x 37 = .ref c1065 → h1416.2.2.2.2 x 38 = .ref c1148 → h1416.2.2.2.2 x 40 = .ref c1234 → h1416.2.2.2.2 x 49 = .ref c1323 → gNo [1, 27, 28, 29, 30, 31, 32, 33, 34, 35, 36, 37, 38, 39, 40, 41, 42] ty1417 → gRn 1024 ty1417 26 (fun _ => 0) h1416 → x < h1416.1 → h1416.2.2.1 x = some (.inr 12) → h1416.2.2.2.1 x = 0 → (∀ k, ¬ k ∈ ([49, 40, 38, 37, 36, 35, 34, 33, 32, 31, 30, 29, 28, 27, 26, 25, 15, 14, 13, 12, 11, 10, 9, 4, 2] : List Nat) → h1416.2.2.2.2 x k = defaultValue (gGG.2.1 12 k)) → gz gPP gGG gcn (d + 1) gt130 201 [some (.ref x), none, none, none, none] [] h1416 (fun q _ => ∃ ty9 : Nat → Nat, gSg [1, 2, 3, 4, 5, 6, 7, 8, 9, 10, 11, 12, 13, 14, 15, 16, 17, 18, 19, 20, 21, 22, 23, 24, 25, 26, 27, 28, 29, 30, 31, 32, 33, 34, 35, 36, 37, 38, 39, 40, 41, 42, 200] [x] [8999, 10999, 31999] ty h ty9 q.2.2 ∧ ∃ ip n1 cw ch iv1 wr1 : Int, ty9 x = 1 ∧ gfin gt130 q.1 q.2.1 = some none ∧ q.2.2.2.2.2.2 x 16 = .int (zi ip) ∧ 0 ≤ ip ∧ ip ≤ 1 ∧ q.2.2.2.2.2.2 x 53 = .int (zi n1) ∧ 0 ≤ n1 ∧ n1 ≤ 10 ∧ q.2.2.2.2.2.2 x 50 = .int (zi cw) ∧ 0 ≤ cw ∧ cw ≤ 32 ∧ q.2.2.2.2.2.2 x 51 = .int (zi ch) ∧ 0 ≤ ch ∧ ch ≤ 32 ∧ q.2.2.2.2.2.2 x 52 = .int (zi iv1) ∧ 0 ≤ iv1 ∧ iv1 ≤ 100 ∧ q.2.2.2.2.2.2 x 59 = .int (zi wr1) ∧ 0 ≤ wr1 ∧ wr1 ≤ 60000 ∧ (ip = 0) ∧ (n1 = 0) ∧ (cw = 0) ∧ (ch = 0) ∧ (iv1 = 0) ∧ (wr1 = 0) ∧ ((q.2.2.1 : Int) = h.1 + 41) ∧ ((q.2.2.2.1 : Int) = h.2.1 + 88652) ∧ (gTs ty9 0 q.2.2) ∧ (gMw ty9 (((fun _ => 16, fun _ => 0, fun _ => 0, fun _ => 0, fun _ => 0, fun _ => 0, fun _ => -1), (0, 0, 0, fun _ => 0)) : gSS) q.2.2) ∧ (gRn 64 ty9 10 (fun i9 => eZz ((i9 : Nat) : Int)) q.2.2) ∧ gUq ty9) := by
  intro fu
  induction fu with
  | zero => intro ty1417 h1416  hm; exact absurd hm (Nat.not_lt_zero _)
  | succ fu ihlp1415 =>
    intro ty1417 h1416  lp1415m lp1415G lp1415u lp1415c0 lp1415c1 lp1415c2 lp1415c3 lp1415c4 lp1415c5 lp1415c6 lp1415c7 lp1415c8 lp1415c9 lp1415c10 lp1415c11 lp1415c12 lp1415c13 lp1415c14 lp1415c15 lp1415c16 lp1415c17 lp1415c18 lp1415c19 lp1415c20 lp1415c21 lp1415c22 lp1415c23 lp1415c24 lp1415c25 lp1415f0 lp1415f1 lp1415k0 lp1415k1 lp1415k2 lp1415k3 lp1415k4 lp1415k5 lp1415k6 lp1415k7 lp1415k8 lp1415k9 lp1415k10 lp1415k11 lp1415k12 lp1415k13 lp1415k14 lp1415k15 lp1415k16 lp1415k17 lp1415k18 lp1415k19 lp1415k20 lp1415k21 lp1415k22 lp1415k23 lp1415k24 lp1415k25 lp1415k26 lp1415w0 lp1415w1 lp1415w2 lp1415w3
    have sh1416 : gSs rT 1027 ty1417 [8999, 10999, 31999] h1416 h1416 := gSs.rf lp1415G.1
    refine gz_s 2 (pc' := 204) (L' := [some (.ref x), none, none, none, none]) (S' := [.int (zi 10), .ref x]) rfl ?_
    refine gs_newr 27 rfl (by decide) rfl sh1416.1 (Nat.le_of_lt (Nat.lt_of_le_of_lt (gJ.cell sh1416.1 lp1415c1 rfl).1 (gJ.cell sh1416.1 lp1415c1 rfl).2.1)) (by omega) (by omega) rfl rfl (by show (10 : Int) ≤ _; omega) (by show _ ≤ (10 : Int); omega) (fun _ _ => gos_i (by decide) (by decide)) (fun ty1418 h1419 c1420 g1421 tc1420 lc1420 nc1420 mc1420 ec1420 dc1420 uc1420 => ?_)
    have gac1420 : h.1 ≤ c1420 := by have h8 := lp1415G.2.1; have h9 := sh1416.2.1; omega
    have uq1422 := uc1420 lp1415u (Or.inr (gNo.sub (by decide +kernel) lp1415k25))
    have G1423 : gSg [1, 2, 3, 4, 5, 6, 7, 8, 9, 10, 11, 12, 13, 14, 15, 16, 17, 18, 19, 20, 21, 22, 23, 24, 25, 26, 27, 28, 29, 30, 31, 32, 33, 34, 35, 36, 37, 38, 39, 40, 41, 42, 200] [x] [8999, 10999, 31999] ty h ty1418 h1419 := gSg.tr (gSg.ss lp1415G sh1416 (by decide)) g1421 (by decide) (by decide) (fun x hx => by cases hx)
    have rw1424 := gSg.raw g1421 lp1415w0 (fun w => by cases w)
    have rf1425 := (rw1424.2.2.1.trans lp1415w1)
    have rf1426 := (rw1424.2.2.2.trans lp1415w2)
    have dd1427 := gSg.rawd (ci := 12) (ps := [49, 40, 38, 37, 36, 35, 34, 33, 32, 31, 30, 29, 28, 27, 26, 25, 15, 14, 13, 12, 11, 10, 9, 4, 2]) g1421 lp1415w0 (fun w => by cases w) lp1415c0 (by decide) lp1415w3
    have t1428 : ty1418 x = 200 := rw1424.1.trans lp1415c0
    have t1429 : ty1418 c3 = 2 := gSg.typ g1421 sh1416.1 lp1415c1 rTk_2
    have t1430 : ty1418 c23 = 3 := gSg.typ g1421 sh1416.1 lp1415c2 rTk_3
    have t1431 : ty1418 c46 = 4 := gSg.typ g1421 sh1416.1 lp1415c3 rTk_4
    have t1432 : ty1418 c72 = 5 := gSg.typ g1421 sh1416.1 lp1415c4 rTk_5
    have t1433 : ty1418 c101 = 6 := gSg.typ g1421 sh1416.1 lp1415c5 rTk_6
    have t1434 : ty1418 c133 = 7 := gSg.typ g1421 sh1416.1 lp1415c6 rTk_7
    have t1435 : ty1418 c171 = 8 := gSg.typ g1421 sh1416.1 lp1415c7 rTk_8
    have t1436 : ty1418 c209 = 9 := gSg.typ g1421 sh1416.1 lp1415c8 rTk_9
    have t1437 : ty1418 c250 = 10 := gSg.typ g1421 sh1416.1 lp1415c9 rTk_10
    have t1438 : ty1418 c294 = 11 := gSg.typ g1421 sh1416.1 lp1415c10 rTk_11
    have t1439 : ty1418 c341 = 12 := gSg.typ g1421 sh1416.1 lp1415c11 rTk_12
    have t1440 : ty1418 c391 = 13 := gSg.typ g1421 sh1416.1 lp1415c12 rTk_13
    have t1441 : ty1418 c447 = 14 := gSg.typ g1421 sh1416.1 lp1415c13 rTk_14
    have t1442 : ty1418 c503 = 15 := gSg.typ g1421 sh1416.1 lp1415c14 rTk_15
    have t1443 : ty1418 c562 = 16 := gSg.typ g1421 sh1416.1 lp1415c15 rTk_16
    have t1444 : ty1418 c624 = 17 := gSg.typ g1421 sh1416.1 lp1415c16 rTk_17
    have t1445 : ty1418 c689 = 18 := gSg.typ g1421 sh1416.1 lp1415c17 rTk_18
    have t1446 : ty1418 c760 = 19 := gSg.typ g1421 sh1416.1 lp1415c18 rTk_19
    have t1447 : ty1418 c831 = 20 := gSg.typ g1421 sh1416.1 lp1415c19 rTk_20
    have t1448 : ty1418 c905 = 21 := gSg.typ g1421 sh1416.1 lp1415c20 rTk_21
    have t1449 : ty1418 c982 = 22 := gSg.typ g1421 sh1416.1 lp1415c21 rTk_22
    have t1450 : ty1418 c1065 = 23 := gSg.typ g1421 sh1416.1 lp1415c22 rTk_23
    have t1451 : ty1418 c1148 = 24 := gSg.typ g1421 sh1416.1 lp1415c23 rTk_24
    have t1452 : ty1418 c1234 = 25 := gSg.typ g1421 sh1416.1 lp1415c24 rTk_25
    have t1453 : ty1418 c1323 = 26 := gSg.typ g1421 sh1416.1 lp1415c25 rTk_26
    have s1454 := gSg.rawat g1421 lp1415w0 (fun w => by cases w) lp1415c0 (by decide) lp1415k0
    have s1455 := gSg.rawat g1421 lp1415w0 (fun w => by cases w) lp1415c0 (by decide) lp1415k1
    have s1456 := gSg.rawat g1421 lp1415w0 (fun w => by cases w) lp1415c0 (by decide) lp1415k2
    have s1457 := gSg.rawat g1421 lp1415w0 (fun w => by cases w) lp1415c0 (by decide) lp1415k3
    have s1458 := gSg.rawat g1421 lp1415w0 (fun w => by cases w) lp1415c0 (by decide) lp1415k4
    have s1459 := gSg.rawat g1421 lp1415w0 (fun w => by cases w) lp1415c0 (by decide) lp1415k5
    have s1460 := gSg.rawat g1421 lp1415w0 (fun w => by cases w) lp1415c0 (by decide) lp1415k6
    have s1461 := gSg.rawat g1421 lp1415w0 (fun w => by cases w) lp1415c0 (by decide) lp1415k7
    have s1462 := gSg.rawat g1421 lp1415w0 (fun w => by cases w) lp1415c0 (by decide) lp1415k8
    have s1463 := gSg.rawat g1421 lp1415w0 (fun w => by cases w) lp1415c0 (by decide) lp1415k9
    have s1464 := gSg.rawat g1421 lp1415w0 (fun w => by cases w) lp1415c0 (by decide) lp1415k10
    have s1465 := gSg.rawat g1421 lp1415w0 (fun w => by cases w) lp1415c0 (by decide) lp1415k11
    have s1466 := gSg.rawat g1421 lp1415w0 (fun w => by cases w) lp1415c0 (by decide) lp1415k12
    have s1467 := gSg.rawat g1421 lp1415w0 (fun w => by cases w) lp1415c0 (by decide) lp1415k13
    have s1468 := gSg.rawat g1421 lp1415w0 (fun w => by cases w) lp1415c0 (by decide) lp1415k14
    have s1469 := gSg.rawat g1421 lp1415w0 (fun w => by cases w) lp1415c0 (by decide) lp1415k15
    have s1470 := gSg.rawat g1421 lp1415w0 (fun w => by cases w) lp1415c0 (by decide) lp1415k16
    have s1471 := gSg.rawat g1421 lp1415w0 (fun w => by cases w) lp1415c0 (by decide) lp1415k17
    have s1472 := gSg.rawat g1421 lp1415w0 (fun w => by cases w) lp1415c0 (by decide) lp1415k18
    have s1473 := gSg.rawat g1421 lp1415w0 (fun w => by cases w) lp1415c0 (by decide) lp1415k19
    have s1474 := gSg.rawat g1421 lp1415w0 (fun w => by cases w) lp1415c0 (by decide) lp1415k20
    have s1475 := gSg.rawat g1421 lp1415w0 (fun w => by cases w) lp1415c0 (by decide) lp1415k21
    have s1476 := gSg.rawat g1421 lp1415w0 (fun w => by cases w) lp1415c0 (by decide) lp1415k22
    have s1477 := gSg.rawat g1421 lp1415w0 (fun w => by cases w) lp1415c0 (by decide) lp1415k23
    have s1478 := gSg.rawat g1421 lp1415w0 (fun w => by cases w) lp1415c0 (by decide) lp1415k24
    have pr1479 : gNo [1, 28, 29, 30, 31, 32, 33, 34, 35, 36, 37, 38, 39, 40, 41, 42] ty1418 := gNo.gr g1421 (by decide +kernel) (gNo.sub (by decide +kernel) lp1415k25)
    have pr1480 := gRn.gr g1421 sh1416.1 rfl (by decide) (by decide) lp1415k26
    have sS1481 : gSs rT 1027 ty1418 [8999, 10999, 31999] h1419 h1419 := gSs.rf g1421.1
    have hoz1482 : gRn 10 ty1418 27 (fun _ => 0) h1419 := gRn.new uq1422 tc1420 (by decide) (fun _ => rfl) (fun k => dc1420 k)
    refine gs_rput rfl (by decide) rfl sS1481.1 t1428 nx rw1424.2.1 rf1425 rfl (Or.inr rfl) (fun h1483 g1484 nh1483 mh1483 kh1483 zh1483 eh1483 fh1483 => ?_)
    have G1485 : gSg [1, 2, 3, 4, 5, 6, 7, 8, 9, 10, 11, 12, 13, 14, 15, 16, 17, 18, 19, 20, 21, 22, 23, 24, 25, 26, 27, 28, 29, 30, 31, 32, 33, 34, 35, 36, 37, 38, 39, 40, 41, 42, 200] [x] [8999, 10999, 31999] ty h ty1418 h1483 := gSg.tr (gSg.ss G1423 sS1481 (by decide)) g1484 (by decide) (by decide) (fun x hx => Or.inr hx)
    have pr1486 := gRn.gr g1484 sS1481.1 rfl (by decide) (by decide) pr1480
    have pr1487 := gRn.gr g1484 sS1481.1 rfl (by decide) (by decide) hoz1482
    have sS1488 : gSs rT 1027 ty1418 [8999, 10999, 31999] h1483 h1483 := gSs.rf g1484.1
    have rf1489 := Nat.lt_of_lt_of_eq rw1424.2.1 nh1483.symm
    have rf1490 := zh1483.trans rf1426
    have dd1491 : ∀ k, ¬ k ∈ ([54, 49, 40, 38, 37, 36, 35, 34, 33, 32, 31, 30, 29, 28, 27, 26, 25, 15, 14, 13, 12, 11, 10, 9, 4, 2] : List Nat) → h1483.2.2.2.2 x k = defaultValue (gGG.2.1 12 k) := raw_dp fh1483 dd1427
    have s1492 := (fh1483 2 (by decide)).trans s1454
    have s1493 := (fh1483 4 (by decide)).trans s1455
    have s1494 := (fh1483 9 (by decide)).trans s1456
    have s1495 := (fh1483 10 (by decide)).trans s1457
    have s1496 := (fh1483 11 (by decide)).trans s1458
    have s1497 := (fh1483 12 (by decide)).trans s1459
    have s1498 := (fh1483 13 (by decide)).trans s1460
    have s1499 := (fh1483 14 (by decide)).trans s1461
    have s1500 := (fh1483 15 (by decide)).trans s1462
    have s1501 := (fh1483 25 (by decide)).trans s1463
    have s1502 := (fh1483 26 (by decide)).trans s1464
    have s1503 := (fh1483 27 (by decide)).trans s1465
    have s1504 := (fh1483 28 (by decide)).trans s1466
    have s1505 := (fh1483 29 (by decide)).trans s1467
    have s1506 := (fh1483 30 (by decide)).trans s1468
    have s1507 := (fh1483 31 (by decide)).trans s1469
    have s1508 := (fh1483 32 (by decide)).trans s1470
    have s1509 := (fh1483 33 (by decide)).trans s1471
    have s1510 := (fh1483 34 (by decide)).trans s1472
    have s1511 := (fh1483 35 (by decide)).trans s1473
    have s1512 := (fh1483 36 (by decide)).trans s1474
    have s1513 := (fh1483 37 (by decide)).trans s1475
    have s1514 := (fh1483 38 (by decide)).trans s1476
    have s1515 := (fh1483 40 (by decide)).trans s1477
    have s1516 := (fh1483 49 (by decide)).trans s1478
    clear G1423 dd1427 pr1480 rf1425 rf1426 rw1424 s1454 s1455 s1456 s1457 s1458 s1459 s1460 s1461 s1462 s1463 s1464 s1465 s1466 s1467 s1468 s1469 s1470 s1471 s1472 s1473 s1474 s1475 s1476 s1477 s1478 sS1481
    refine gz_s 2 (pc' := 212) (L' := [some (.ref x), none, none, none, none]) (S' := [.int (zi 10), .ref x]) rfl ?_
    refine gs_newr 28 rfl (by decide) rfl sS1488.1 (Nat.le_of_lt (Nat.lt_of_le_of_lt (gJ.cell sS1488.1 t1429 rfl).1 (gJ.cell sS1488.1 t1429 rfl).2.1)) (by omega) (by omega) rfl rfl (by show (10 : Int) ≤ _; omega) (by show _ ≤ (10 : Int); omega) (fun _ _ => gos_i (by decide) (by decide)) (fun ty1517 h1518 c1519 g1520 tc1519 lc1519 nc1519 mc1519 ec1519 dc1519 uc1519 => ?_)
    have gac1519 : h.1 ≤ c1519 := by have h8 := G1485.2.1; have h9 := sS1488.2.1; omega
    have uq1521 := uc1519 uq1422 (Or.inr (gNo.sub (by decide +kernel) pr1479))
    have G1522 : gSg [1, 2, 3, 4, 5, 6, 7, 8, 9, 10, 11, 12, 13, 14, 15, 16, 17, 18, 19, 20, 21, 22, 23, 24, 25, 26, 27, 28, 29, 30, 31, 32, 33, 34, 35, 36, 37, 38, 39, 40, 41, 42, 200] [x] [8999, 10999, 31999] ty h ty1517 h1518 := gSg.tr (gSg.ss G1485 sS1488 (by decide)) g1520 (by decide) (by decide) (fun x hx => by cases hx)
    have rw1523 := gSg.raw g1520 rf1489 (fun w => by cases w)
    have rf1524 := (rw1523.2.2.1.trans kh1483)
    have rf1525 := (rw1523.2.2.2.trans rf1490)
    have dd1526 := gSg.rawd (ci := 12) (ps := [54, 49, 40, 38, 37, 36, 35, 34, 33, 32, 31, 30, 29, 28, 27, 26, 25, 15, 14, 13, 12, 11, 10, 9, 4, 2]) g1520 rf1489 (fun w => by cases w) t1428 (by decide) dd1491
    have t1527 : ty1517 x = 200 := rw1523.1.trans t1428
    have t1528 : ty1517 c3 = 2 := gSg.typ g1520 sS1488.1 t1429 rTk_2
    have t1529 : ty1517 c23 = 3 := gSg.typ g1520 sS1488.1 t1430 rTk_3
    have t1530 : ty1517 c46 = 4 := gSg.typ g1520 sS1488.1 t1431 rTk_4
    have t1531 : ty1517 c72 = 5 := gSg.typ g1520 sS1488.1 t1432 rTk_5
    have t1532 : ty1517 c101 = 6 := gSg.typ g1520 sS1488.1 t1433 rTk_6
    have t1533 : ty1517 c133 = 7 := gSg.typ g1520 sS1488.1 t1434 rTk_7
    have t1534 : ty1517 c171 = 8 := gSg.typ g1520 sS1488.1 t1435 rTk_8
    have t1535 : ty1517 c209 = 9 := gSg.typ g1520 sS1488.1 t1436 rTk_9
    have t1536 : ty1517 c250 = 10 := gSg.typ g1520 sS1488.1 t1437 rTk_10
    have t1537 : ty1517 c294 = 11 := gSg.typ g1520 sS1488.1 t1438 rTk_11
    have t1538 : ty1517 c341 = 12 := gSg.typ g1520 sS1488.1 t1439 rTk_12
    have t1539 : ty1517 c391 = 13 := gSg.typ g1520 sS1488.1 t1440 rTk_13
    have t1540 : ty1517 c447 = 14 := gSg.typ g1520 sS1488.1 t1441 rTk_14
    have t1541 : ty1517 c503 = 15 := gSg.typ g1520 sS1488.1 t1442 rTk_15
    have t1542 : ty1517 c562 = 16 := gSg.typ g1520 sS1488.1 t1443 rTk_16
    have t1543 : ty1517 c624 = 17 := gSg.typ g1520 sS1488.1 t1444 rTk_17
    have t1544 : ty1517 c689 = 18 := gSg.typ g1520 sS1488.1 t1445 rTk_18
    have t1545 : ty1517 c760 = 19 := gSg.typ g1520 sS1488.1 t1446 rTk_19
    have t1546 : ty1517 c831 = 20 := gSg.typ g1520 sS1488.1 t1447 rTk_20
    have t1547 : ty1517 c905 = 21 := gSg.typ g1520 sS1488.1 t1448 rTk_21
    have t1548 : ty1517 c982 = 22 := gSg.typ g1520 sS1488.1 t1449 rTk_22
    have t1549 : ty1517 c1065 = 23 := gSg.typ g1520 sS1488.1 t1450 rTk_23
    have t1550 : ty1517 c1148 = 24 := gSg.typ g1520 sS1488.1 t1451 rTk_24
    have t1551 : ty1517 c1234 = 25 := gSg.typ g1520 sS1488.1 t1452 rTk_25
    have t1552 : ty1517 c1323 = 26 := gSg.typ g1520 sS1488.1 t1453 rTk_26
    have t1553 : ty1517 c1420 = 27 := gSg.typ g1520 sS1488.1 tc1420 rTk_27
    have s1554 := gSg.rawat g1520 rf1489 (fun w => by cases w) t1428 (by decide) s1492
    have s1555 := gSg.rawat g1520 rf1489 (fun w => by cases w) t1428 (by decide) s1493
    have s1556 := gSg.rawat g1520 rf1489 (fun w => by cases w) t1428 (by decide) s1494
    have s1557 := gSg.rawat g1520 rf1489 (fun w => by cases w) t1428 (by decide) s1495
    have s1558 := gSg.rawat g1520 rf1489 (fun w => by cases w) t1428 (by decide) s1496
    have s1559 := gSg.rawat g1520 rf1489 (fun w => by cases w) t1428 (by decide) s1497
    have s1560 := gSg.rawat g1520 rf1489 (fun w => by cases w) t1428 (by decide) s1498
    have s1561 := gSg.rawat g1520 rf1489 (fun w => by cases w) t1428 (by decide) s1499
    have s1562 := gSg.rawat g1520 rf1489 (fun w => by cases w) t1428 (by decide) s1500
    have s1563 := gSg.rawat g1520 rf1489 (fun w => by cases w) t1428 (by decide) s1501
    have s1564 := gSg.rawat g1520 rf1489 (fun w => by cases w) t1428 (by decide) s1502
    have s1565 := gSg.rawat g1520 rf1489 (fun w => by cases w) t1428 (by decide) s1503
    have s1566 := gSg.rawat g1520 rf1489 (fun w => by cases w) t1428 (by decide) s1504
    have s1567 := gSg.rawat g1520 rf1489 (fun w => by cases w) t1428 (by decide) s1505
    have s1568 := gSg.rawat g1520 rf1489 (fun w => by cases w) t1428 (by decide) s1506
    have s1569 := gSg.rawat g1520 rf1489 (fun w => by cases w) t1428 (by decide) s1507
    have s1570 := gSg.rawat g1520 rf1489 (fun w => by cases w) t1428 (by decide) s1508
    have s1571 := gSg.rawat g1520 rf1489 (fun w => by cases w) t1428 (by decide) s1509
    have s1572 := gSg.rawat g1520 rf1489 (fun w => by cases w) t1428 (by decide) s1510
    have s1573 := gSg.rawat g1520 rf1489 (fun w => by cases w) t1428 (by decide) s1511
    have s1574 := gSg.rawat g1520 rf1489 (fun w => by cases w) t1428 (by decide) s1512
    have s1575 := gSg.rawat g1520 rf1489 (fun w => by cases w) t1428 (by decide) s1513
    have s1576 := gSg.rawat g1520 rf1489 (fun w => by cases w) t1428 (by decide) s1514
    have s1577 := gSg.rawat g1520 rf1489 (fun w => by cases w) t1428 (by decide) s1515
    have s1578 := gSg.rawat g1520 rf1489 (fun w => by cases w) t1428 (by decide) s1516
    have s1579 := gSg.rawat g1520 rf1489 (fun w => by cases w) t1428 (by decide) eh1483
    have pr1580 : gNo [1, 29, 30, 31, 32, 33, 34, 35, 36, 37, 38, 39, 40, 41, 42] ty1517 := gNo.gr g1520 (by decide +kernel) (gNo.sub (by decide +kernel) pr1479)
    have pr1581 := gRn.gr g1520 sS1488.1 rfl (by decide) (by decide) pr1486
    have pr1582 := gRn.gr g1520 sS1488.1 rfl (by decide) (by decide) pr1487
    have sS1583 : gSs rT 1027 ty1517 [8999, 10999, 31999] h1518 h1518 := gSs.rf g1520.1
    clear G1485 dd1491 pr1479 pr1486 pr1487 rf1489 rf1490 s1492 s1493 s1494 s1495 s1496 s1497 s1498 s1499 s1500 s1501 s1502 s1503 s1504 s1505 s1506 s1507 s1508 s1509 s1510 s1511 s1512 s1513 s1514 s1515 s1516 sS1488 t1429 t1430 t1431 t1432 t1433 t1434 t1435 t1436 t1437 t1438 t1439 t1440 t1441 t1442 t1443 t1444 t1445 t1446 t1447 t1448 t1449 t1450 t1451 t1452 t1453 uq1422
    have hoz1584 : gRn 10 ty1517 28 (fun _ => 0) h1518 := gRn.new uq1521 tc1519 (by decide) (fun _ => rfl) (fun k => dc1519 k)
    refine gs_rput rfl (by decide) rfl sS1583.1 t1527 nx rw1523.2.1 rf1524 rfl (Or.inr rfl) (fun h1585 g1586 nh1585 mh1585 kh1585 zh1585 eh1585 fh1585 => ?_)
    have G1587 : gSg [1, 2, 3, 4, 5, 6, 7, 8, 9, 10, 11, 12, 13, 14, 15, 16, 17, 18, 19, 20, 21, 22, 23, 24, 25, 26, 27, 28, 29, 30, 31, 32, 33, 34, 35, 36, 37, 38, 39, 40, 41, 42, 200] [x] [8999, 10999, 31999] ty h ty1517 h1585 := gSg.tr (gSg.ss G1522 sS1583 (by decide)) g1586 (by decide) (by decide) (fun x hx => Or.inr hx)
    have pr1588 := gRn.gr g1586 sS1583.1 rfl (by decide) (by decide) pr1581
    have pr1589 := gRn.gr g1586 sS1583.1 rfl (by decide) (by decide) pr1582
    have pr1590 := gRn.gr g1586 sS1583.1 rfl (by decide) (by decide) hoz1584
    have sS1591 : gSs rT 1027 ty1517 [8999, 10999, 31999] h1585 h1585 := gSs.rf g1586.1
    have rf1592 := Nat.lt_of_lt_of_eq rw1523.2.1 nh1585.symm
    have rf1593 := zh1585.trans rf1525
    have dd1594 : ∀ k, ¬ k ∈ ([55, 54, 49, 40, 38, 37, 36, 35, 34, 33, 32, 31, 30, 29, 28, 27, 26, 25, 15, 14, 13, 12, 11, 10, 9, 4, 2] : List Nat) → h1585.2.2.2.2 x k = defaultValue (gGG.2.1 12 k) := raw_dp fh1585 dd1526
    have s1595 := (fh1585 2 (by decide)).trans s1554
    have s1596 := (fh1585 4 (by decide)).trans s1555
    have s1597 := (fh1585 9 (by decide)).trans s1556
    have s1598 := (fh1585 10 (by decide)).trans s1557
    have s1599 := (fh1585 11 (by decide)).trans s1558
    have s1600 := (fh1585 12 (by decide)).trans s1559
    have s1601 := (fh1585 13 (by decide)).trans s1560
    have s1602 := (fh1585 14 (by decide)).trans s1561
    have s1603 := (fh1585 15 (by decide)).trans s1562
    have s1604 := (fh1585 25 (by decide)).trans s1563
    have s1605 := (fh1585 26 (by decide)).trans s1564
    have s1606 := (fh1585 27 (by decide)).trans s1565
    have s1607 := (fh1585 28 (by decide)).trans s1566
    have s1608 := (fh1585 29 (by decide)).trans s1567
    have s1609 := (fh1585 30 (by decide)).trans s1568
    have s1610 := (fh1585 31 (by decide)).trans s1569
    have s1611 := (fh1585 32 (by decide)).trans s1570
    have s1612 := (fh1585 33 (by decide)).trans s1571
    have s1613 := (fh1585 34 (by decide)).trans s1572
    have s1614 := (fh1585 35 (by decide)).trans s1573
    have s1615 := (fh1585 36 (by decide)).trans s1574
    have s1616 := (fh1585 37 (by decide)).trans s1575
    have s1617 := (fh1585 38 (by decide)).trans s1576
    have s1618 := (fh1585 40 (by decide)).trans s1577
    have s1619 := (fh1585 49 (by decide)).trans s1578
    have s1620 := (fh1585 54 (by decide)).trans s1579
    clear G1522 dd1526 pr1581 pr1582 rf1524 rf1525 rw1523 s1554 s1555 s1556 s1557 s1558 s1559 s1560 s1561 s1562 s1563 s1564 s1565 s1566 s1567 s1568 s1569 s1570 s1571 s1572 s1573 s1574 s1575 s1576 s1577 s1578 s1579 sS1583
    refine gz_s 2 (pc' := 220) (L' := [some (.ref x), none, none, none, none]) (S' := [.int (zi 10), .ref x]) rfl ?_
    refine gs_newr 29 rfl (by decide) rfl sS1591.1 (Nat.le_of_lt (Nat.lt_of_le_of_lt (gJ.cell sS1591.1 t1528 rfl).1 (gJ.cell sS1591.1 t1528 rfl).2.1)) (by omega) (by omega) rfl rfl (by show (10 : Int) ≤ _; omega) (by show _ ≤ (10 : Int); omega) (fun _ _ => gos_i (by decide) (by decide)) (fun ty1621 h1622 c1623 g1624 tc1623 lc1623 nc1623 mc1623 ec1623 dc1623 uc1623 => ?_)
    have gac1623 : h.1 ≤ c1623 := by have h8 := G1587.2.1; have h9 := sS1591.2.1; omega
    have uq1625 := uc1623 uq1521 (Or.inr (gNo.sub (by decide +kernel) pr1580))
    have G1626 : gSg [1, 2, 3, 4, 5, 6, 7, 8, 9, 10, 11, 12, 13, 14, 15, 16, 17, 18, 19, 20, 21, 22, 23, 24, 25, 26, 27, 28, 29, 30, 31, 32, 33, 34, 35, 36, 37, 38, 39, 40, 41, 42, 200] [x] [8999, 10999, 31999] ty h ty1621 h1622 := gSg.tr (gSg.ss G1587 sS1591 (by decide)) g1624 (by decide) (by decide) (fun x hx => by cases hx)
    have rw1627 := gSg.raw g1624 rf1592 (fun w => by cases w)
    have rf1628 := (rw1627.2.2.1.trans kh1585)
    have rf1629 := (rw1627.2.2.2.trans rf1593)
    have dd1630 := gSg.rawd (ci := 12) (ps := [55, 54, 49, 40, 38, 37, 36, 35, 34, 33, 32, 31, 30, 29, 28, 27, 26, 25, 15, 14, 13, 12, 11, 10, 9, 4, 2]) g1624 rf1592 (fun w => by cases w) t1527 (by decide) dd1594
    have t1631 : ty1621 x = 200 := rw1627.1.trans t1527
    have t1632 : ty1621 c3 = 2 := gSg.typ g1624 sS1591.1 t1528 rTk_2
    have t1633 : ty1621 c23 = 3 := gSg.typ g1624 sS1591.1 t1529 rTk_3
    have t1634 : ty1621 c46 = 4 := gSg.typ g1624 sS1591.1 t1530 rTk_4
    have t1635 : ty1621 c72 = 5 := gSg.typ g1624 sS1591.1 t1531 rTk_5
    have t1636 : ty1621 c101 = 6 := gSg.typ g1624 sS1591.1 t1532 rTk_6
    have t1637 : ty1621 c133 = 7 := gSg.typ g1624 sS1591.1 t1533 rTk_7
    have t1638 : ty1621 c171 = 8 := gSg.typ g1624 sS1591.1 t1534 rTk_8
    have t1639 : ty1621 c209 = 9 := gSg.typ g1624 sS1591.1 t1535 rTk_9
    have t1640 : ty1621 c250 = 10 := gSg.typ g1624 sS1591.1 t1536 rTk_10
    have t1641 : ty1621 c294 = 11 := gSg.typ g1624 sS1591.1 t1537 rTk_11
    have t1642 : ty1621 c341 = 12 := gSg.typ g1624 sS1591.1 t1538 rTk_12
    have t1643 : ty1621 c391 = 13 := gSg.typ g1624 sS1591.1 t1539 rTk_13
    have t1644 : ty1621 c447 = 14 := gSg.typ g1624 sS1591.1 t1540 rTk_14
    have t1645 : ty1621 c503 = 15 := gSg.typ g1624 sS1591.1 t1541 rTk_15
    have t1646 : ty1621 c562 = 16 := gSg.typ g1624 sS1591.1 t1542 rTk_16
    have t1647 : ty1621 c624 = 17 := gSg.typ g1624 sS1591.1 t1543 rTk_17
    have t1648 : ty1621 c689 = 18 := gSg.typ g1624 sS1591.1 t1544 rTk_18
    have t1649 : ty1621 c760 = 19 := gSg.typ g1624 sS1591.1 t1545 rTk_19
    have t1650 : ty1621 c831 = 20 := gSg.typ g1624 sS1591.1 t1546 rTk_20
    have t1651 : ty1621 c905 = 21 := gSg.typ g1624 sS1591.1 t1547 rTk_21
    have t1652 : ty1621 c982 = 22 := gSg.typ g1624 sS1591.1 t1548 rTk_22
    have t1653 : ty1621 c1065 = 23 := gSg.typ g1624 sS1591.1 t1549 rTk_23
    have t1654 : ty1621 c1148 = 24 := gSg.typ g1624 sS1591.1 t1550 rTk_24
    have t1655 : ty1621 c1234 = 25 := gSg.typ g1624 sS1591.1 t1551 rTk_25
    have t1656 : ty1621 c1323 = 26 := gSg.typ g1624 sS1591.1 t1552 rTk_26
    have t1657 : ty1621 c1420 = 27 := gSg.typ g1624 sS1591.1 t1553 rTk_27
    have t1658 : ty1621 c1519 = 28 := gSg.typ g1624 sS1591.1 tc1519 rTk_28
    have s1659 := gSg.rawat g1624 rf1592 (fun w => by cases w) t1527 (by decide) s1595
    have s1660 := gSg.rawat g1624 rf1592 (fun w => by cases w) t1527 (by decide) s1596
    have s1661 := gSg.rawat g1624 rf1592 (fun w => by cases w) t1527 (by decide) s1597
    have s1662 := gSg.rawat g1624 rf1592 (fun w => by cases w) t1527 (by decide) s1598
    have s1663 := gSg.rawat g1624 rf1592 (fun w => by cases w) t1527 (by decide) s1599
    have s1664 := gSg.rawat g1624 rf1592 (fun w => by cases w) t1527 (by decide) s1600
    have s1665 := gSg.rawat g1624 rf1592 (fun w => by cases w) t1527 (by decide) s1601
    have s1666 := gSg.rawat g1624 rf1592 (fun w => by cases w) t1527 (by decide) s1602
    have s1667 := gSg.rawat g1624 rf1592 (fun w => by cases w) t1527 (by decide) s1603
    have s1668 := gSg.rawat g1624 rf1592 (fun w => by cases w) t1527 (by decide) s1604
    have s1669 := gSg.rawat g1624 rf1592 (fun w => by cases w) t1527 (by decide) s1605
    have s1670 := gSg.rawat g1624 rf1592 (fun w => by cases w) t1527 (by decide) s1606
    have s1671 := gSg.rawat g1624 rf1592 (fun w => by cases w) t1527 (by decide) s1607
    have s1672 := gSg.rawat g1624 rf1592 (fun w => by cases w) t1527 (by decide) s1608
    have s1673 := gSg.rawat g1624 rf1592 (fun w => by cases w) t1527 (by decide) s1609
    have s1674 := gSg.rawat g1624 rf1592 (fun w => by cases w) t1527 (by decide) s1610
    have s1675 := gSg.rawat g1624 rf1592 (fun w => by cases w) t1527 (by decide) s1611
    have s1676 := gSg.rawat g1624 rf1592 (fun w => by cases w) t1527 (by decide) s1612
    have s1677 := gSg.rawat g1624 rf1592 (fun w => by cases w) t1527 (by decide) s1613
    have s1678 := gSg.rawat g1624 rf1592 (fun w => by cases w) t1527 (by decide) s1614
    have s1679 := gSg.rawat g1624 rf1592 (fun w => by cases w) t1527 (by decide) s1615
    have s1680 := gSg.rawat g1624 rf1592 (fun w => by cases w) t1527 (by decide) s1616
    have s1681 := gSg.rawat g1624 rf1592 (fun w => by cases w) t1527 (by decide) s1617
    have s1682 := gSg.rawat g1624 rf1592 (fun w => by cases w) t1527 (by decide) s1618
    have s1683 := gSg.rawat g1624 rf1592 (fun w => by cases w) t1527 (by decide) s1619
    have s1684 := gSg.rawat g1624 rf1592 (fun w => by cases w) t1527 (by decide) s1620
    have s1685 := gSg.rawat g1624 rf1592 (fun w => by cases w) t1527 (by decide) eh1585
    have pr1686 : gNo [1, 30, 31, 32, 33, 34, 35, 36, 37, 38, 39, 40, 41, 42] ty1621 := gNo.gr g1624 (by decide +kernel) (gNo.sub (by decide +kernel) pr1580)
    have pr1687 := gRn.gr g1624 sS1591.1 rfl (by decide) (by decide) pr1588
    have pr1688 := gRn.gr g1624 sS1591.1 rfl (by decide) (by decide) pr1589
    have pr1689 := gRn.gr g1624 sS1591.1 rfl (by decide) (by decide) pr1590
    have sS1690 : gSs rT 1027 ty1621 [8999, 10999, 31999] h1622 h1622 := gSs.rf g1624.1
    clear G1587 dd1594 pr1580 pr1588 pr1589 pr1590 rf1592 rf1593 s1595 s1596 s1597 s1598 s1599 s1600 s1601 s1602 s1603 s1604 s1605 s1606 s1607 s1608 s1609 s1610 s1611 s1612 s1613 s1614 s1615 s1616 s1617 s1618 s1619 s1620 sS1591 t1528 t1529 t1530 t1531 t1532 t1533 t1534 t1535 t1536 t1537 t1538 t1539 t1540 t1541 t1542 t1543 t1544 t1545 t1546 t1547 t1548 t1549 t1550 t1551 t1552 t1553 uq1521
    have hoz1691 : gRn 10 ty1621 29 (fun _ => 0) h1622 := gRn.new uq1625 tc1623 (by decide) (fun _ => rfl) (fun k => dc1623 k)
    refine gs_rput rfl (by decide) rfl sS1690.1 t1631 nx rw1627.2.1 rf1628 rfl (Or.inr rfl) (fun h1692 g1693 nh1692 mh1692 kh1692 zh1692 eh1692 fh1692 => ?_)
    have G1694 : gSg [1, 2, 3, 4, 5, 6, 7, 8, 9, 10, 11, 12, 13, 14, 15, 16, 17, 18, 19, 20, 21, 22, 23, 24, 25, 26, 27, 28, 29, 30, 31, 32, 33, 34, 35, 36, 37, 38, 39, 40, 41, 42, 200] [x] [8999, 10999, 31999] ty h ty1621 h1692 := gSg.tr (gSg.ss G1626 sS1690 (by decide)) g1693 (by decide) (by decide) (fun x hx => Or.inr hx)
    have pr1695 := gRn.gr g1693 sS1690.1 rfl (by decide) (by decide) pr1687
    have pr1696 := gRn.gr g1693 sS1690.1 rfl (by decide) (by decide) pr1688
    have pr1697 := gRn.gr g1693 sS1690.1 rfl (by decide) (by decide) pr1689
    have pr1698 := gRn.gr g1693 sS1690.1 rfl (by decide) (by decide) hoz1691
    have sS1699 : gSs rT 1027 ty1621 [8999, 10999, 31999] h1692 h1692 := gSs.rf g1693.1
    have rf1700 := Nat.lt_of_lt_of_eq rw1627.2.1 nh1692.symm
    have rf1701 := zh1692.trans rf1629
    have dd1702 : ∀ k, ¬ k ∈ ([56, 55, 54, 49, 40, 38, 37, 36, 35, 34, 33, 32, 31, 30, 29, 28, 27, 26, 25, 15, 14, 13, 12, 11, 10, 9, 4, 2] : List Nat) → h1692.2.2.2.2 x k = defaultValue (gGG.2.1 12 k) := raw_dp fh1692 dd1630
    have s1703 := (fh1692 2 (by decide)).trans s1659
    have s1704 := (fh1692 4 (by decide)).trans s1660
    have s1705 := (fh1692 9 (by decide)).trans s1661
    have s1706 := (fh1692 10 (by decide)).trans s1662
    have s1707 := (fh1692 11 (by decide)).trans s1663
    have s1708 := (fh1692 12 (by decide)).trans s1664
    have s1709 := (fh1692 13 (by decide)).trans s1665
    have s1710 := (fh1692 14 (by decide)).trans s1666
    have s1711 := (fh1692 15 (by decide)).trans s1667
    have s1712 := (fh1692 25 (by decide)).trans s1668
    have s1713 := (fh1692 26 (by decide)).trans s1669
    have s1714 := (fh1692 27 (by decide)).trans s1670
    have s1715 := (fh1692 28 (by decide)).trans s1671
    have s1716 := (fh1692 29 (by decide)).trans s1672
    have s1717 := (fh1692 30 (by decide)).trans s1673
    have s1718 := (fh1692 31 (by decide)).trans s1674
    have s1719 := (fh1692 32 (by decide)).trans s1675
    have s1720 := (fh1692 33 (by decide)).trans s1676
    have s1721 := (fh1692 34 (by decide)).trans s1677
    have s1722 := (fh1692 35 (by decide)).trans s1678
    have s1723 := (fh1692 36 (by decide)).trans s1679
    have s1724 := (fh1692 37 (by decide)).trans s1680
    have s1725 := (fh1692 38 (by decide)).trans s1681
    have s1726 := (fh1692 40 (by decide)).trans s1682
    have s1727 := (fh1692 49 (by decide)).trans s1683
    have s1728 := (fh1692 54 (by decide)).trans s1684
    have s1729 := (fh1692 55 (by decide)).trans s1685
    clear G1626 dd1630 pr1687 pr1688 pr1689 rf1628 rf1629 rw1627 s1659 s1660 s1661 s1662 s1663 s1664 s1665 s1666 s1667 s1668 s1669 s1670 s1671 s1672 s1673 s1674 s1675 s1676 s1677 s1678 s1679 s1680 s1681 s1682 s1683 s1684 s1685 sS1690
    have lp1730 := cmlp1730 d hJ x nx c3 c23 c46 c72 c101 c133 c171 c209 c250 c294 c341 c391 c447 c503 c562 c624 c689 c760 c831 c905 c982 c1065 c1148 c1234 c1323 c1420 c1519 c1623
    have G3753 : gSg [1, 2, 3, 4, 5, 6, 7, 8, 9, 10, 11, 12, 13, 14, 15, 16, 17, 18, 19, 20, 21, 22, 23, 24, 25, 26, 27, 28, 29, 30, 31, 32, 33, 34, 35, 36, 37, 38, 39, 40, 41, 42, 200] [x] [8999, 10999, 31999] ty h ty1621 h1692 := gSg.ss G1694 sS1699 (by decide)
    exact gz_wk (lp1730 _ ty1621 h1692  (Nat.lt_succ_self _) G3753 uq1625 t1631 t1632 t1633 t1634 t1635 t1636 t1637 t1638 t1639 t1640 t1641 t1642 t1643 t1644 t1645 t1646 t1647 t1648 t1649 t1650 t1651 t1652 t1653 t1654 t1655 t1656 t1657 t1658 tc1623 (by omega) (by omega) s1703 s1704 s1705 s1706 s1707 s1708 s1709 s1710 s1711 s1712 s1713 s1714 s1715 s1716 s1717 s1718 s1719 s1720 s1721 s1722 s1723 s1724 s1725 s1726 s1727 s1728 s1729 eh1692 pr1686 pr1695 pr1696 pr1697 pr1698 rf1700 kh1692 rf1701 dd1702) (gLw.s (gLw.n (gLw.n (gLw.n (gLw.n gLw.z)))))
set_option maxRecDepth 20000 in
set_option maxHeartbeats 4000000 in
theorem cmlp1060 (d : Nat) {ty : Nat → Nat} {h : gH} (hJ : gJ rT 1027 ty h) (x : Nat) (nx : 1027 ≤ x) (c3 c23 c46 c72 c101 c133 c171 c209 c250 c294 c341 c391 c447 c503 c562 c624 c689 c760 c831 c905 c982 : Nat) : ∀ (fu : Nat) (ty1062 : Nat → Nat) (h1061 : gH), ((1 : Int)).toNat < fu → gSg [1, 2, 3, 4, 5, 6, 7, 8, 9, 10, 11, 12, 13, 14, 15, 16, 17, 18, 19, 20, 21, 22, 23, 24, 25, 26, 27, 28, 29, 30, 31, 32, 33, 34, 35, 36, 37, 38, 39, 40, 41, 42, 200] [x] [8999, 10999, 31999] ty h ty1062 h1061 → gUq ty1062 → ty1062 x = 200 → ty1062 c3 = 2 → ty1062 c23 = 3 → ty1062 c46 = 4 → ty1062 c72 = 5 → ty1062 c101 = 6 → ty1062 c133 = 7 → ty1062 c171 = 8 → ty1062 c209 = 9 → ty1062 c250 = 10 → ty1062 c294 = 11 → ty1062 c341 = 12 → ty1062 c391 = 13 → ty1062 c447 = 14 → ty1062 c503 = 15 → ty1062 c562 = 16 → ty1062 c624 = 17 → ty1062 c689 = 18 → ty1062 c760 = 19 → ty1062 c831 = 20 → ty1062 c905 = 21 → ty1062 c982 = 22 → ((h1061.1 : Int) = h.1 + 21) → ((h1061.2.1 : Int) = h.2.1 + 10788) → h1061.2.2.2.2 x 2 = .ref c3 → h1061.2.2.2.2 x 4 = .ref c23 → h1061.2.2.2.2 x 9 = .ref c46 → h1061.2.2.2.2 x 10 = .ref c72 → h1061.2.2.2.2 x 11 = .ref c101 → h1061.2.2.2.2 x 12 = .ref c133 → h1061.2.2.2.2 x 13 = .ref c171 → h1061.2.2.2.2 x 14 = .ref c209 → h1061.2.2.2.2 x 15 = .ref c250 → h1061.2.2.2.2 x 25 = .ref c294 → h1061.2.2.2.2 x 26 = .ref c341 → h1061.2.2.2.2 x 27 = .ref c391 → h1061.2.2.2.2 x 28 = .ref c447 → h1061.2.2.2.2 x 29 = .ref c503 → h1061.2.2.2.2 x 30 = .ref c562 → h1061.2.2.2.2 x 31 = .ref c624 → h1061.2.2.2.2 x 32 = .ref c689 → h1061.2.2.2.2 x 33 = .ref c760 → h1061.2.2.2.2 x 34 = .ref c831 → h1061.2.2.2.2 x 35 = .ref c905 → h1061.2.2.2.2 x 36 = .ref c982 → gNo [1, 23, 24, 25, 26, 27, 28, 29, 30, 31, 32, 33, 34, 35, 36, 37, 38, 39, 40, 41, 42] ty1062 → x < h1061.1 → h1061.2.2.1 x = some (.inr 12) → h1061.2.2.2.1 x = 0 → (∀ k, ¬ k ∈ ([36, 35, 34, 33, 32, 31, 30, 29, 28, 27, 26, 25, 15, 14, 13, 12, 11, 10, 9, 4, 2] : List Nat) → h1061.2.2.2.2 x k = defaultValue (gGG.2.1 12 k)) → gz gPP gGG gcn (d + 1) gt130 167 [some (.ref x), none, none, none, none] [] h1061 (fun q _ => ∃ ty9 : Nat → Nat, gSg [1, 2, 3, 4, 5, 6, 7, 8, 9, 10, 11, 12, 13, 14, 15, 16, 17, 18, 19, 20, 21, 22, 23, 24, 25, 26, 27, 28, 29, 30, 31, 32, 33, 34, 35, 36, 37, 38, 39, 40, 41, 42, 200] [x] [8999, 10999, 31999] ty h ty9 q.2.2 ∧ ∃ ip n1 cw ch iv1 wr1 : Int, ty9 x = 1 ∧ gfin gt130 q.1 q.2.1 = some none ∧ q.2.2.2.2.2.2 x 16 = .int (zi ip) ∧ 0 ≤ ip ∧ ip ≤ 1 ∧ q.2.2.2.2.2.2 x 53 = .int (zi n1) ∧ 0 ≤ n1 ∧ n1 ≤ 10 ∧ q.2.2.2.2.2.2 x 50 = .int (zi cw) ∧ 0 ≤ cw ∧ cw ≤ 32 ∧ q.2.2.2.2.2.2 x 51 = .int (zi ch) ∧ 0 ≤ ch ∧ ch ≤ 32 ∧ q.2.2.2.2.2.2 x 52 = .int (zi iv1) ∧ 0 ≤ iv1 ∧ iv1 ≤ 100 ∧ q.2.2.2.2.2.2 x 59 = .int (zi wr1) ∧ 0 ≤ wr1 ∧ wr1 ≤ 60000 ∧ (ip = 0) ∧ (n1 = 0) ∧ (cw = 0) ∧ (ch = 0) ∧ (iv1 = 0) ∧ (wr1 = 0) ∧ ((q.2.2.1 : Int) = h.1 + 41) ∧ ((q.2.2.2.1 : Int) = h.2.1 + 88652) ∧ (gTs ty9 0 q.2.2) ∧ (gMw ty9 (((fun _ => 16, fun _ => 0, fun _ => 0, fun _ => 0, fun _ => 0, fun _ => 0, fun _ => -1), (0, 0, 0, fun _ => 0)) : gSS) q.2.2) ∧ (gRn 64 ty9 10 (fun i9 => eZz ((i9 : Nat) : Int)) q.2.2) ∧ gUq ty9) := by
  intro fu
  induction fu with
  | zero => intro ty1062 h1061  hm; exact absurd hm (Nat.not_lt_zero _)
  | succ fu ihlp1060 =>
    intro ty1062 h1061  lp1060m lp1060G lp1060u lp1060c0 lp1060c1 lp1060c2 lp1060c3 lp1060c4 lp1060c5 lp1060c6 lp1060c7 lp1060c8 lp1060c9 lp1060c10 lp1060c11 lp1060c12 lp1060c13 lp1060c14 lp1060c15 lp1060c16 lp1060c17 lp1060c18 lp1060c19 lp1060c20 lp1060c21 lp1060f0 lp1060f1 lp1060k0 lp1060k1 lp1060k2 lp1060k3 lp1060k4 lp1060k5 lp1060k6 lp1060k7 lp1060k8 lp1060k9 lp1060k10 lp1060k11 lp1060k12 lp1060k13 lp1060k14 lp1060k15 lp1060k16 lp1060k17 lp1060k18 lp1060k19 lp1060k20 lp1060k21 lp1060w0 lp1060w1 lp1060w2 lp1060w3
    have sh1061 : gSs rT 1027 ty1062 [8999, 10999, 31999] h1061 h1061 := gSs.rf lp1060G.1
    refine gz_s 2 (pc' := 171) (L' := [some (.ref x), none, none, none, none]) (S' := [.int (zi 12288), .ref x]) rfl ?_
    refine gs_newr 23 rfl (by decide) rfl sh1061.1 (Nat.le_of_lt (Nat.lt_of_le_of_lt (gJ.cell sh1061.1 lp1060c1 rfl).1 (gJ.cell sh1061.1 lp1060c1 rfl).2.1)) (by omega) (by omega) rfl rfl (by show (12288 : Int) ≤ _; omega) (by show _ ≤ (12288 : Int); omega) (fun _ _ => gos_i (by decide) (by decide)) (fun ty1063 h1064 c1065 g1066 tc1065 lc1065 nc1065 mc1065 ec1065 dc1065 uc1065 => ?_)
    have gac1065 : h.1 ≤ c1065 := by have h8 := lp1060G.2.1; have h9 := sh1061.2.1; omega
    have uq1067 := uc1065 lp1060u (Or.inr (gNo.sub (by decide +kernel) lp1060k21))
    have G1068 : gSg [1, 2, 3, 4, 5, 6, 7, 8, 9, 10, 11, 12, 13, 14, 15, 16, 17, 18, 19, 20, 21, 22, 23, 24, 25, 26, 27, 28, 29, 30, 31, 32, 33, 34, 35, 36, 37, 38, 39, 40, 41, 42, 200] [x] [8999, 10999, 31999] ty h ty1063 h1064 := gSg.tr (gSg.ss lp1060G sh1061 (by decide)) g1066 (by decide) (by decide) (fun x hx => by cases hx)
    have rw1069 := gSg.raw g1066 lp1060w0 (fun w => by cases w)
    have rf1070 := (rw1069.2.2.1.trans lp1060w1)
    have rf1071 := (rw1069.2.2.2.trans lp1060w2)
    have dd1072 := gSg.rawd (ci := 12) (ps := [36, 35, 34, 33, 32, 31, 30, 29, 28, 27, 26, 25, 15, 14, 13, 12, 11, 10, 9, 4, 2]) g1066 lp1060w0 (fun w => by cases w) lp1060c0 (by decide) lp1060w3
    have t1073 : ty1063 x = 200 := rw1069.1.trans lp1060c0
    have t1074 : ty1063 c3 = 2 := gSg.typ g1066 sh1061.1 lp1060c1 rTk_2
    have t1075 : ty1063 c23 = 3 := gSg.typ g1066 sh1061.1 lp1060c2 rTk_3
    have t1076 : ty1063 c46 = 4 := gSg.typ g1066 sh1061.1 lp1060c3 rTk_4
    have t1077 : ty1063 c72 = 5 := gSg.typ g1066 sh1061.1 lp1060c4 rTk_5
    have t1078 : ty1063 c101 = 6 := gSg.typ g1066 sh1061.1 lp1060c5 rTk_6
    have t1079 : ty1063 c133 = 7 := gSg.typ g1066 sh1061.1 lp1060c6 rTk_7
    have t1080 : ty1063 c171 = 8 := gSg.typ g1066 sh1061.1 lp1060c7 rTk_8
    have t1081 : ty1063 c209 = 9 := gSg.typ g1066 sh1061.1 lp1060c8 rTk_9
    have t1082 : ty1063 c250 = 10 := gSg.typ g1066 sh1061.1 lp1060c9 rTk_10
    have t1083 : ty1063 c294 = 11 := gSg.typ g1066 sh1061.1 lp1060c10 rTk_11
    have t1084 : ty1063 c341 = 12 := gSg.typ g1066 sh1061.1 lp1060c11 rTk_12
    have t1085 : ty1063 c391 = 13 := gSg.typ g1066 sh1061.1 lp1060c12 rTk_13
    have t1086 : ty1063 c447 = 14 := gSg.typ g1066 sh1061.1 lp1060c13 rTk_14
    have t1087 : ty1063 c503 = 15 := gSg.typ g1066 sh1061.1 lp1060c14 rTk_15
    have t1088 : ty1063 c562 = 16 := gSg.typ g1066 sh1061.1 lp1060c15 rTk_16
    have t1089 : ty1063 c624 = 17 := gSg.typ g1066 sh1061.1 lp1060c16 rTk_17
    have t1090 : ty1063 c689 = 18 := gSg.typ g1066 sh1061.1 lp1060c17 rTk_18
    have t1091 : ty1063 c760 = 19 := gSg.typ g1066 sh1061.1 lp1060c18 rTk_19
    have t1092 : ty1063 c831 = 20 := gSg.typ g1066 sh1061.1 lp1060c19 rTk_20
    have t1093 : ty1063 c905 = 21 := gSg.typ g1066 sh1061.1 lp1060c20 rTk_21
    have t1094 : ty1063 c982 = 22 := gSg.typ g1066 sh1061.1 lp1060c21 rTk_22
    have s1095 := gSg.rawat g1066 lp1060w0 (fun w => by cases w) lp1060c0 (by decide) lp1060k0
    have s1096 := gSg.rawat g1066 lp1060w0 (fun w => by cases w) lp1060c0 (by decide) lp1060k1
    have s1097 := gSg.rawat g1066 lp1060w0 (fun w => by cases w) lp1060c0 (by decide) lp1060k2
    have s1098 := gSg.rawat g1066 lp1060w0 (fun w => by cases w) lp1060c0 (by decide) lp1060k3
    have s1099 := gSg.rawat g1066 lp1060w0 (fun w => by cases w) lp1060c0 (by decide) lp1060k4
    have s1100 := gSg.rawat g1066 lp1060w0 (fun w => by cases w) lp1060c0 (by decide) lp1060k5
    have s1101 := gSg.rawat g1066 lp1060w0 (fun w => by cases w) lp1060c0 (by decide) lp1060k6
    have s1102 := gSg.rawat g1066 lp1060w0 (fun w => by cases w) lp1060c0 (by decide) lp1060k7
    have s1103 := gSg.rawat g1066 lp1060w0 (fun w => by cases w) lp1060c0 (by decide) lp1060k8
    have s1104 := gSg.rawat g1066 lp1060w0 (fun w => by cases w) lp1060c0 (by decide) lp1060k9
    have s1105 := gSg.rawat g1066 lp1060w0 (fun w => by cases w) lp1060c0 (by decide) lp1060k10
    have s1106 := gSg.rawat g1066 lp1060w0 (fun w => by cases w) lp1060c0 (by decide) lp1060k11
    have s1107 := gSg.rawat g1066 lp1060w0 (fun w => by cases w) lp1060c0 (by decide) lp1060k12
    have s1108 := gSg.rawat g1066 lp1060w0 (fun w => by cases w) lp1060c0 (by decide) lp1060k13
    have s1109 := gSg.rawat g1066 lp1060w0 (fun w => by cases w) lp1060c0 (by decide) lp1060k14
    have s1110 := gSg.rawat g1066 lp1060w0 (fun w => by cases w) lp1060c0 (by decide) lp1060k15
    have s1111 := gSg.rawat g1066 lp1060w0 (fun w => by cases w) lp1060c0 (by decide) lp1060k16
    have s1112 := gSg.rawat g1066 lp1060w0 (fun w => by cases w) lp1060c0 (by decide) lp1060k17
    have s1113 := gSg.rawat g1066 lp1060w0 (fun w => by cases w) lp1060c0 (by decide) lp1060k18
    have s1114 := gSg.rawat g1066 lp1060w0 (fun w => by cases w) lp1060c0 (by decide) lp1060k19
    have s1115 := gSg.rawat g1066 lp1060w0 (fun w => by cases w) lp1060c0 (by decide) lp1060k20
    have pr1116 : gNo [1, 24, 25, 26, 27, 28, 29, 30, 31, 32, 33, 34, 35, 36, 37, 38, 39, 40, 41, 42] ty1063 := gNo.gr g1066 (by decide +kernel) (gNo.sub (by decide +kernel) lp1060k21)
    have sS1117 : gSs rT 1027 ty1063 [8999, 10999, 31999] h1064 h1064 := gSs.rf g1066.1
    refine gs_rput rfl (by decide) rfl sS1117.1 t1073 nx rw1069.2.1 rf1070 rfl (Or.inr rfl) (fun h1118 g1119 nh1118 mh1118 kh1118 zh1118 eh1118 fh1118 => ?_)
    have G1120 : gSg [1, 2, 3, 4, 5, 6, 7, 8, 9, 10, 11, 12, 13, 14, 15, 16, 17, 18, 19, 20, 21, 22, 23, 24, 25, 26, 27, 28, 29, 30, 31, 32, 33, 34, 35, 36, 37, 38, 39, 40, 41, 42, 200] [x] [8999, 10999, 31999] ty h ty1063 h1118 := gSg.tr (gSg.ss G1068 sS1117 (by decide)) g1119 (by decide) (by decide) (fun x hx => Or.inr hx)
    have sS1121 : gSs rT 1027 ty1063 [8999, 10999, 31999] h1118 h1118 := gSs.rf g1119.1
    have rf1122 := Nat.lt_of_lt_of_eq rw1069.2.1 nh1118.symm
    have rf1123 := zh1118.trans rf1071
    have dd1124 : ∀ k, ¬ k ∈ ([37, 36, 35, 34, 33, 32, 31, 30, 29, 28, 27, 26, 25, 15, 14, 13, 12, 11, 10, 9, 4, 2] : List Nat) → h1118.2.2.2.2 x k = defaultValue (gGG.2.1 12 k) := raw_dp fh1118 dd1072
    have s1125 := (fh1118 2 (by decide)).trans s1095
    have s1126 := (fh1118 4 (by decide)).trans s1096
    have s1127 := (fh1118 9 (by decide)).trans s1097
    have s1128 := (fh1118 10 (by decide)).trans s1098
    have s1129 := (fh1118 11 (by decide)).trans s1099
    have s1130 := (fh1118 12 (by decide)).trans s1100
    have s1131 := (fh1118 13 (by decide)).trans s1101
    have s1132 := (fh1118 14 (by decide)).trans s1102
    have s1133 := (fh1118 15 (by decide)).trans s1103
    have s1134 := (fh1118 25 (by decide)).trans s1104
    have s1135 := (fh1118 26 (by decide)).trans s1105
    have s1136 := (fh1118 27 (by decide)).trans s1106
    have s1137 := (fh1118 28 (by decide)).trans s1107
    have s1138 := (fh1118 29 (by decide)).trans s1108
    have s1139 := (fh1118 30 (by decide)).trans s1109
    have s1140 := (fh1118 31 (by decide)).trans s1110
    have s1141 := (fh1118 32 (by decide)).trans s1111
    have s1142 := (fh1118 33 (by decide)).trans s1112
    have s1143 := (fh1118 34 (by decide)).trans s1113
    have s1144 := (fh1118 35 (by decide)).trans s1114
    have s1145 := (fh1118 36 (by decide)).trans s1115
    clear G1068 dd1072 rf1070 rf1071 rw1069 s1095 s1096 s1097 s1098 s1099 s1100 s1101 s1102 s1103 s1104 s1105 s1106 s1107 s1108 s1109 s1110 s1111 s1112 s1113 s1114 s1115 sS1117
    refine gz_s 2 (pc' := 180) (L' := [some (.ref x), none, none, none, none]) (S' := [.int (zi 192), .ref x]) rfl ?_
    refine gs_newr 24 rfl (by decide) rfl sS1121.1 (Nat.le_of_lt (Nat.lt_of_le_of_lt (gJ.cell sS1121.1 t1074 rfl).1 (gJ.cell sS1121.1 t1074 rfl).2.1)) (by omega) (by omega) rfl rfl (by show (192 : Int) ≤ _; omega) (by show _ ≤ (192 : Int); omega) (fun _ _ => gos_i (by decide) (by decide)) (fun ty1146 h1147 c1148 g1149 tc1148 lc1148 nc1148 mc1148 ec1148 dc1148 uc1148 => ?_)
    have gac1148 : h.1 ≤ c1148 := by have h8 := G1120.2.1; have h9 := sS1121.2.1; omega
    have uq1150 := uc1148 uq1067 (Or.inr (gNo.sub (by decide +kernel) pr1116))
    have G1151 : gSg [1, 2, 3, 4, 5, 6, 7, 8, 9, 10, 11, 12, 13, 14, 15, 16, 17, 18, 19, 20, 21, 22, 23, 24, 25, 26, 27, 28, 29, 30, 31, 32, 33, 34, 35, 36, 37, 38, 39, 40, 41, 42, 200] [x] [8999, 10999, 31999] ty h ty1146 h1147 := gSg.tr (gSg.ss G1120 sS1121 (by decide)) g1149 (by decide) (by decide) (fun x hx => by cases hx)
    have rw1152 := gSg.raw g1149 rf1122 (fun w => by cases w)
    have rf1153 := (rw1152.2.2.1.trans kh1118)
    have rf1154 := (rw1152.2.2.2.trans rf1123)
    have dd1155 := gSg.rawd (ci := 12) (ps := [37, 36, 35, 34, 33, 32, 31, 30, 29, 28, 27, 26, 25, 15, 14, 13, 12, 11, 10, 9, 4, 2]) g1149 rf1122 (fun w => by cases w) t1073 (by decide) dd1124
    have t1156 : ty1146 x = 200 := rw1152.1.trans t1073
    have t1157 : ty1146 c3 = 2 := gSg.typ g1149 sS1121.1 t1074 rTk_2
    have t1158 : ty1146 c23 = 3 := gSg.typ g1149 sS1121.1 t1075 rTk_3
    have t1159 : ty1146 c46 = 4 := gSg.typ g1149 sS1121.1 t1076 rTk_4
    have t1160 : ty1146 c72 = 5 := gSg.typ g1149 sS1121.1 t1077 rTk_5
    have t1161 : ty1146 c101 = 6 := gSg.typ g1149 sS1121.1 t1078 rTk_6
    have t1162 : ty1146 c133 = 7 := gSg.typ g1149 sS1121.1 t1079 rTk_7
    have t1163 : ty1146 c171 = 8 := gSg.typ g1149 sS1121.1 t1080 rTk_8
    have t1164 : ty1146 c209 = 9 := gSg.typ g1149 sS1121.1 t1081 rTk_9
    have t1165 : ty1146 c250 = 10 := gSg.typ g1149 sS1121.1 t1082 rTk_10
    have t1166 : ty1146 c294 = 11 := gSg.typ g1149 sS1121.1 t1083 rTk_11
    have t1167 : ty1146 c341 = 12 := gSg.typ g1149 sS1121.1 t1084 rTk_12
    have t1168 : ty1146 c391 = 13 := gSg.typ g1149 sS1121.1 t1085 rTk_13
    have t1169 : ty1146 c447 = 14 := gSg.typ g1149 sS1121.1 t1086 rTk_14
    have t1170 : ty1146 c503 = 15 := gSg.typ g1149 sS1121.1 t1087 rTk_15
    have t1171 : ty1146 c562 = 16 := gSg.typ g1149 sS1121.1 t1088 rTk_16
    have t1172 : ty1146 c624 = 17 := gSg.typ g1149 sS1121.1 t1089 rTk_17
    have t1173 : ty1146 c689 = 18 := gSg.typ g1149 sS1121.1 t1090 rTk_18
    have t1174 : ty1146 c760 = 19 := gSg.typ g1149 sS1121.1 t1091 rTk_19
    have t1175 : ty1146 c831 = 20 := gSg.typ g1149 sS1121.1 t1092 rTk_20
    have t1176 : ty1146 c905 = 21 := gSg.typ g1149 sS1121.1 t1093 rTk_21
    have t1177 : ty1146 c982 = 22 := gSg.typ g1149 sS1121.1 t1094 rTk_22
    have t1178 : ty1146 c1065 = 23 := gSg.typ g1149 sS1121.1 tc1065 rTk_23
    have s1179 := gSg.rawat g1149 rf1122 (fun w => by cases w) t1073 (by decide) s1125
    have s1180 := gSg.rawat g1149 rf1122 (fun w => by cases w) t1073 (by decide) s1126
    have s1181 := gSg.rawat g1149 rf1122 (fun w => by cases w) t1073 (by decide) s1127
    have s1182 := gSg.rawat g1149 rf1122 (fun w => by cases w) t1073 (by decide) s1128
    have s1183 := gSg.rawat g1149 rf1122 (fun w => by cases w) t1073 (by decide) s1129
    have s1184 := gSg.rawat g1149 rf1122 (fun w => by cases w) t1073 (by decide) s1130
    have s1185 := gSg.rawat g1149 rf1122 (fun w => by cases w) t1073 (by decide) s1131
    have s1186 := gSg.rawat g1149 rf1122 (fun w => by cases w) t1073 (by decide) s1132
    have s1187 := gSg.rawat g1149 rf1122 (fun w => by cases w) t1073 (by decide) s1133
    have s1188 := gSg.rawat g1149 rf1122 (fun w => by cases w) t1073 (by decide) s1134
    have s1189 := gSg.rawat g1149 rf1122 (fun w => by cases w) t1073 (by decide) s1135
    have s1190 := gSg.rawat g1149 rf1122 (fun w => by cases w) t1073 (by decide) s1136
    have s1191 := gSg.rawat g1149 rf1122 (fun w => by cases w) t1073 (by decide) s1137
    have s1192 := gSg.rawat g1149 rf1122 (fun w => by cases w) t1073 (by decide) s1138
    have s1193 := gSg.rawat g1149 rf1122 (fun w => by cases w) t1073 (by decide) s1139
    have s1194 := gSg.rawat g1149 rf1122 (fun w => by cases w) t1073 (by decide) s1140
    have s1195 := gSg.rawat g1149 rf1122 (fun w => by cases w) t1073 (by decide) s1141
    have s1196 := gSg.rawat g1149 rf1122 (fun w => by cases w) t1073 (by decide) s1142
    have s1197 := gSg.rawat g1149 rf1122 (fun w => by cases w) t1073 (by decide) s1143
    have s1198 := gSg.rawat g1149 rf1122 (fun w => by cases w) t1073 (by decide) s1144
    have s1199 := gSg.rawat g1149 rf1122 (fun w => by cases w) t1073 (by decide) s1145
    have s1200 := gSg.rawat g1149 rf1122 (fun w => by cases w) t1073 (by decide) eh1118
    have pr1201 : gNo [1, 25, 26, 27, 28, 29, 30, 31, 32, 33, 34, 35, 36, 37, 38, 39, 40, 41, 42] ty1146 := gNo.gr g1149 (by decide +kernel) (gNo.sub (by decide +kernel) pr1116)
    have sS1202 : gSs rT 1027 ty1146 [8999, 10999, 31999] h1147 h1147 := gSs.rf g1149.1
    clear G1120 dd1124 pr1116 rf1122 rf1123 s1125 s1126 s1127 s1128 s1129 s1130 s1131 s1132 s1133 s1134 s1135 s1136 s1137 s1138 s1139 s1140 s1141 s1142 s1143 s1144 s1145 sS1121 t1073 t1074 t1075 t1076 t1077 t1078 t1079 t1080 t1081 t1082 t1083 t1084 t1085 t1086 t1087 t1088 t1089 t1090 t1091 t1092 t1093 t1094 uq1067
    refine gs_rput rfl (by decide) rfl sS1202.1 t1156 nx rw1152.2.1 rf1153 rfl (Or.inr rfl) (fun h1203 g1204 nh1203 mh1203 kh1203 zh1203 eh1203 fh1203 => ?_)
    have G1205 : gSg [1, 2, 3, 4, 5, 6, 7, 8, 9, 10, 11, 12, 13, 14, 15, 16, 17, 18, 19, 20, 21, 22, 23, 24, 25, 26, 27, 28, 29, 30, 31, 32, 33, 34, 35, 36, 37, 38, 39, 40, 41, 42, 200] [x] [8999, 10999, 31999] ty h ty1146 h1203 := gSg.tr (gSg.ss G1151 sS1202 (by decide)) g1204 (by decide) (by decide) (fun x hx => Or.inr hx)
    have sS1206 : gSs rT 1027 ty1146 [8999, 10999, 31999] h1203 h1203 := gSs.rf g1204.1
    have rf1207 := Nat.lt_of_lt_of_eq rw1152.2.1 nh1203.symm
    have rf1208 := zh1203.trans rf1154
    have dd1209 : ∀ k, ¬ k ∈ ([38, 37, 36, 35, 34, 33, 32, 31, 30, 29, 28, 27, 26, 25, 15, 14, 13, 12, 11, 10, 9, 4, 2] : List Nat) → h1203.2.2.2.2 x k = defaultValue (gGG.2.1 12 k) := raw_dp fh1203 dd1155
    have s1210 := (fh1203 2 (by decide)).trans s1179
    have s1211 := (fh1203 4 (by decide)).trans s1180
    have s1212 := (fh1203 9 (by decide)).trans s1181
    have s1213 := (fh1203 10 (by decide)).trans s1182
    have s1214 := (fh1203 11 (by decide)).trans s1183
    have s1215 := (fh1203 12 (by decide)).trans s1184
    have s1216 := (fh1203 13 (by decide)).trans s1185
    have s1217 := (fh1203 14 (by decide)).trans s1186
    have s1218 := (fh1203 15 (by decide)).trans s1187
    have s1219 := (fh1203 25 (by decide)).trans s1188
    have s1220 := (fh1203 26 (by decide)).trans s1189
    have s1221 := (fh1203 27 (by decide)).trans s1190
    have s1222 := (fh1203 28 (by decide)).trans s1191
    have s1223 := (fh1203 29 (by decide)).trans s1192
    have s1224 := (fh1203 30 (by decide)).trans s1193
    have s1225 := (fh1203 31 (by decide)).trans s1194
    have s1226 := (fh1203 32 (by decide)).trans s1195
    have s1227 := (fh1203 33 (by decide)).trans s1196
    have s1228 := (fh1203 34 (by decide)).trans s1197
    have s1229 := (fh1203 35 (by decide)).trans s1198
    have s1230 := (fh1203 36 (by decide)).trans s1199
    have s1231 := (fh1203 37 (by decide)).trans s1200
    clear G1151 dd1155 rf1153 rf1154 rw1152 s1179 s1180 s1181 s1182 s1183 s1184 s1185 s1186 s1187 s1188 s1189 s1190 s1191 s1192 s1193 s1194 s1195 s1196 s1197 s1198 s1199 s1200 sS1202
    refine gz_s 2 (pc' := 187) (L' := [some (.ref x), none, none, none, none]) (S' := [.int (zi 3), .ref x]) rfl ?_
    refine gs_newr 25 rfl (by decide) rfl sS1206.1 (Nat.le_of_lt (Nat.lt_of_le_of_lt (gJ.cell sS1206.1 t1157 rfl).1 (gJ.cell sS1206.1 t1157 rfl).2.1)) (by omega) (by omega) rfl rfl (by show (3 : Int) ≤ _; omega) (by show _ ≤ (3 : Int); omega) (fun _ _ => gos_i (by decide) (by decide)) (fun ty1232 h1233 c1234 g1235 tc1234 lc1234 nc1234 mc1234 ec1234 dc1234 uc1234 => ?_)
    have gac1234 : h.1 ≤ c1234 := by have h8 := G1205.2.1; have h9 := sS1206.2.1; omega
    have uq1236 := uc1234 uq1150 (Or.inr (gNo.sub (by decide +kernel) pr1201))
    have G1237 : gSg [1, 2, 3, 4, 5, 6, 7, 8, 9, 10, 11, 12, 13, 14, 15, 16, 17, 18, 19, 20, 21, 22, 23, 24, 25, 26, 27, 28, 29, 30, 31, 32, 33, 34, 35, 36, 37, 38, 39, 40, 41, 42, 200] [x] [8999, 10999, 31999] ty h ty1232 h1233 := gSg.tr (gSg.ss G1205 sS1206 (by decide)) g1235 (by decide) (by decide) (fun x hx => by cases hx)
    have rw1238 := gSg.raw g1235 rf1207 (fun w => by cases w)
    have rf1239 := (rw1238.2.2.1.trans kh1203)
    have rf1240 := (rw1238.2.2.2.trans rf1208)
    have dd1241 := gSg.rawd (ci := 12) (ps := [38, 37, 36, 35, 34, 33, 32, 31, 30, 29, 28, 27, 26, 25, 15, 14, 13, 12, 11, 10, 9, 4, 2]) g1235 rf1207 (fun w => by cases w) t1156 (by decide) dd1209
    have t1242 : ty1232 x = 200 := rw1238.1.trans t1156
    have t1243 : ty1232 c3 = 2 := gSg.typ g1235 sS1206.1 t1157 rTk_2
    have t1244 : ty1232 c23 = 3 := gSg.typ g1235 sS1206.1 t1158 rTk_3
    have t1245 : ty1232 c46 = 4 := gSg.typ g1235 sS1206.1 t1159 rTk_4
    have t1246 : ty1232 c72 = 5 := gSg.typ g1235 sS1206.1 t1160 rTk_5
    have t1247 : ty1232 c101 = 6 := gSg.typ g1235 sS1206.1 t1161 rTk_6
    have t1248 : ty1232 c133 = 7 := gSg.typ g1235 sS1206.1 t1162 rTk_7
    have t1249 : ty1232 c171 = 8 := gSg.typ g1235 sS1206.1 t1163 rTk_8
    have t1250 : ty1232 c209 = 9 := gSg.typ g1235 sS1206.1 t1164 rTk_9
    have t1251 : ty1232 c250 = 10 := gSg.typ g1235 sS1206.1 t1165 rTk_10
    have t1252 : ty1232 c294 = 11 := gSg.typ g1235 sS1206.1 t1166 rTk_11
    have t1253 : ty1232 c341 = 12 := gSg.typ g1235 sS1206.1 t1167 rTk_12
    have t1254 : ty1232 c391 = 13 := gSg.typ g1235 sS1206.1 t1168 rTk_13
    have t1255 : ty1232 c447 = 14 := gSg.typ g1235 sS1206.1 t1169 rTk_14
    have t1256 : ty1232 c503 = 15 := gSg.typ g1235 sS1206.1 t1170 rTk_15
    have t1257 : ty1232 c562 = 16 := gSg.typ g1235 sS1206.1 t1171 rTk_16
    have t1258 : ty1232 c624 = 17 := gSg.typ g1235 sS1206.1 t1172 rTk_17
    have t1259 : ty1232 c689 = 18 := gSg.typ g1235 sS1206.1 t1173 rTk_18
    have t1260 : ty1232 c760 = 19 := gSg.typ g1235 sS1206.1 t1174 rTk_19
    have t1261 : ty1232 c831 = 20 := gSg.typ g1235 sS1206.1 t1175 rTk_20
    have t1262 : ty1232 c905 = 21 := gSg.typ g1235 sS1206.1 t1176 rTk_21
    have t1263 : ty1232 c982 = 22 := gSg.typ g1235 sS1206.1 t1177 rTk_22
    have t1264 : ty1232 c1065 = 23 := gSg.typ g1235 sS1206.1 t1178 rTk_23
    have t1265 : ty1232 c1148 = 24 := gSg.typ g1235 sS1206.1 tc1148 rTk_24
    have s1266 := gSg.rawat g1235 rf1207 (fun w => by cases w) t1156 (by decide) s1210
    have s1267 := gSg.rawat g1235 rf1207 (fun w => by cases w) t1156 (by decide) s1211
    have s1268 := gSg.rawat g1235 rf1207 (fun w => by cases w) t1156 (by decide) s1212
    have s1269 := gSg.rawat g1235 rf1207 (fun w => by cases w) t1156 (by decide) s1213
    have s1270 := gSg.rawat g1235 rf1207 (fun w => by cases w) t1156 (by decide) s1214
    have s1271 := gSg.rawat g1235 rf1207 (fun w => by cases w) t1156 (by decide) s1215
    have s1272 := gSg.rawat g1235 rf1207 (fun w => by cases w) t1156 (by decide) s1216
    have s1273 := gSg.rawat g1235 rf1207 (fun w => by cases w) t1156 (by decide) s1217
    have s1274 := gSg.rawat g1235 rf1207 (fun w => by cases w) t1156 (by decide) s1218
    have s1275 := gSg.rawat g1235 rf1207 (fun w => by cases w) t1156 (by decide) s1219
    have s1276 := gSg.rawat g1235 rf1207 (fun w => by cases w) t1156 (by decide) s1220
    have s1277 := gSg.rawat g1235 rf1207 (fun w => by cases w) t1156 (by decide) s1221
    have s1278 := gSg.rawat g1235 rf1207 (fun w => by cases w) t1156 (by decide) s1222
    have s1279 := gSg.rawat g1235 rf1207 (fun w => by cases w) t1156 (by decide) s1223
    have s1280 := gSg.rawat g1235 rf1207 (fun w => by cases w) t1156 (by decide) s1224
    have s1281 := gSg.rawat g1235 rf1207 (fun w => by cases w) t1156 (by decide) s1225
    have s1282 := gSg.rawat g1235 rf1207 (fun w => by cases w) t1156 (by decide) s1226
    have s1283 := gSg.rawat g1235 rf1207 (fun w => by cases w) t1156 (by decide) s1227
    have s1284 := gSg.rawat g1235 rf1207 (fun w => by cases w) t1156 (by decide) s1228
    have s1285 := gSg.rawat g1235 rf1207 (fun w => by cases w) t1156 (by decide) s1229
    have s1286 := gSg.rawat g1235 rf1207 (fun w => by cases w) t1156 (by decide) s1230
    have s1287 := gSg.rawat g1235 rf1207 (fun w => by cases w) t1156 (by decide) s1231
    have s1288 := gSg.rawat g1235 rf1207 (fun w => by cases w) t1156 (by decide) eh1203
    have pr1289 : gNo [1, 26, 27, 28, 29, 30, 31, 32, 33, 34, 35, 36, 37, 38, 39, 40, 41, 42] ty1232 := gNo.gr g1235 (by decide +kernel) (gNo.sub (by decide +kernel) pr1201)
    have sS1290 : gSs rT 1027 ty1232 [8999, 10999, 31999] h1233 h1233 := gSs.rf g1235.1
    clear G1205 dd1209 pr1201 rf1207 rf1208 s1210 s1211 s1212 s1213 s1214 s1215 s1216 s1217 s1218 s1219 s1220 s1221 s1222 s1223 s1224 s1225 s1226 s1227 s1228 s1229 s1230 s1231 sS1206 t1156 t1157 t1158 t1159 t1160 t1161 t1162 t1163 t1164 t1165 t1166 t1167 t1168 t1169 t1170 t1171 t1172 t1173 t1174 t1175 t1176 t1177 t1178 uq1150
    refine gs_rput rfl (by decide) rfl sS1290.1 t1242 nx rw1238.2.1 rf1239 rfl (Or.inr rfl) (fun h1291 g1292 nh1291 mh1291 kh1291 zh1291 eh1291 fh1291 => ?_)
    have G1293 : gSg [1, 2, 3, 4, 5, 6, 7, 8, 9, 10, 11, 12, 13, 14, 15, 16, 17, 18, 19, 20, 21, 22, 23, 24, 25, 26, 27, 28, 29, 30, 31, 32, 33, 34, 35, 36, 37, 38, 39, 40, 41, 42, 200] [x] [8999, 10999, 31999] ty h ty1232 h1291 := gSg.tr (gSg.ss G1237 sS1290 (by decide)) g1292 (by decide) (by decide) (fun x hx => Or.inr hx)
    have sS1294 : gSs rT 1027 ty1232 [8999, 10999, 31999] h1291 h1291 := gSs.rf g1292.1
    have rf1295 := Nat.lt_of_lt_of_eq rw1238.2.1 nh1291.symm
    have rf1296 := zh1291.trans rf1240
    have dd1297 : ∀ k, ¬ k ∈ ([40, 38, 37, 36, 35, 34, 33, 32, 31, 30, 29, 28, 27, 26, 25, 15, 14, 13, 12, 11, 10, 9, 4, 2] : List Nat) → h1291.2.2.2.2 x k = defaultValue (gGG.2.1 12 k) := raw_dp fh1291 dd1241
    have s1298 := (fh1291 2 (by decide)).trans s1266
    have s1299 := (fh1291 4 (by decide)).trans s1267
    have s1300 := (fh1291 9 (by decide)).trans s1268
    have s1301 := (fh1291 10 (by decide)).trans s1269
    have s1302 := (fh1291 11 (by decide)).trans s1270
    have s1303 := (fh1291 12 (by decide)).trans s1271
    have s1304 := (fh1291 13 (by decide)).trans s1272
    have s1305 := (fh1291 14 (by decide)).trans s1273
    have s1306 := (fh1291 15 (by decide)).trans s1274
    have s1307 := (fh1291 25 (by decide)).trans s1275
    have s1308 := (fh1291 26 (by decide)).trans s1276
    have s1309 := (fh1291 27 (by decide)).trans s1277
    have s1310 := (fh1291 28 (by decide)).trans s1278
    have s1311 := (fh1291 29 (by decide)).trans s1279
    have s1312 := (fh1291 30 (by decide)).trans s1280
    have s1313 := (fh1291 31 (by decide)).trans s1281
    have s1314 := (fh1291 32 (by decide)).trans s1282
    have s1315 := (fh1291 33 (by decide)).trans s1283
    have s1316 := (fh1291 34 (by decide)).trans s1284
    have s1317 := (fh1291 35 (by decide)).trans s1285
    have s1318 := (fh1291 36 (by decide)).trans s1286
    have s1319 := (fh1291 37 (by decide)).trans s1287
    have s1320 := (fh1291 38 (by decide)).trans s1288
    clear G1237 dd1241 rf1239 rf1240 rw1238 s1266 s1267 s1268 s1269 s1270 s1271 s1272 s1273 s1274 s1275 s1276 s1277 s1278 s1279 s1280 s1281 s1282 s1283 s1284 s1285 s1286 s1287 s1288 sS1290
    refine gz_s 2 (pc' := 196) (L' := [some (.ref x), none, none, none, none]) (S' := [.int (zi 1024), .ref x]) rfl ?_
    refine gs_newr 26 rfl (by decide) rfl sS1294.1 (Nat.le_of_lt (Nat.lt_of_le_of_lt (gJ.cell sS1294.1 t1243 rfl).1 (gJ.cell sS1294.1 t1243 rfl).2.1)) (by omega) (by omega) rfl rfl (by show (1024 : Int) ≤ _; omega) (by show _ ≤ (1024 : Int); omega) (fun _ _ => gos_i (by decide) (by decide)) (fun ty1321 h1322 c1323 g1324 tc1323 lc1323 nc1323 mc1323 ec1323 dc1323 uc1323 => ?_)
    have gac1323 : h.1 ≤ c1323 := by have h8 := G1293.2.1; have h9 := sS1294.2.1; omega
    have uq1325 := uc1323 uq1236 (Or.inr (gNo.sub (by decide +kernel) pr1289))
    have G1326 : gSg [1, 2, 3, 4, 5, 6, 7, 8, 9, 10, 11, 12, 13, 14, 15, 16, 17, 18, 19, 20, 21, 22, 23, 24, 25, 26, 27, 28, 29, 30, 31, 32, 33, 34, 35, 36, 37, 38, 39, 40, 41, 42, 200] [x] [8999, 10999, 31999] ty h ty1321 h1322 := gSg.tr (gSg.ss G1293 sS1294 (by decide)) g1324 (by decide) (by decide) (fun x hx => by cases hx)
    have rw1327 := gSg.raw g1324 rf1295 (fun w => by cases w)
    have rf1328 := (rw1327.2.2.1.trans kh1291)
    have rf1329 := (rw1327.2.2.2.trans rf1296)
    have dd1330 := gSg.rawd (ci := 12) (ps := [40, 38, 37, 36, 35, 34, 33, 32, 31, 30, 29, 28, 27, 26, 25, 15, 14, 13, 12, 11, 10, 9, 4, 2]) g1324 rf1295 (fun w => by cases w) t1242 (by decide) dd1297
    have t1331 : ty1321 x = 200 := rw1327.1.trans t1242
    have t1332 : ty1321 c3 = 2 := gSg.typ g1324 sS1294.1 t1243 rTk_2
    have t1333 : ty1321 c23 = 3 := gSg.typ g1324 sS1294.1 t1244 rTk_3
    have t1334 : ty1321 c46 = 4 := gSg.typ g1324 sS1294.1 t1245 rTk_4
    have t1335 : ty1321 c72 = 5 := gSg.typ g1324 sS1294.1 t1246 rTk_5
    have t1336 : ty1321 c101 = 6 := gSg.typ g1324 sS1294.1 t1247 rTk_6
    have t1337 : ty1321 c133 = 7 := gSg.typ g1324 sS1294.1 t1248 rTk_7
    have t1338 : ty1321 c171 = 8 := gSg.typ g1324 sS1294.1 t1249 rTk_8
    have t1339 : ty1321 c209 = 9 := gSg.typ g1324 sS1294.1 t1250 rTk_9
    have t1340 : ty1321 c250 = 10 := gSg.typ g1324 sS1294.1 t1251 rTk_10
    have t1341 : ty1321 c294 = 11 := gSg.typ g1324 sS1294.1 t1252 rTk_11
    have t1342 : ty1321 c341 = 12 := gSg.typ g1324 sS1294.1 t1253 rTk_12
    have t1343 : ty1321 c391 = 13 := gSg.typ g1324 sS1294.1 t1254 rTk_13
    have t1344 : ty1321 c447 = 14 := gSg.typ g1324 sS1294.1 t1255 rTk_14
    have t1345 : ty1321 c503 = 15 := gSg.typ g1324 sS1294.1 t1256 rTk_15
    have t1346 : ty1321 c562 = 16 := gSg.typ g1324 sS1294.1 t1257 rTk_16
    have t1347 : ty1321 c624 = 17 := gSg.typ g1324 sS1294.1 t1258 rTk_17
    have t1348 : ty1321 c689 = 18 := gSg.typ g1324 sS1294.1 t1259 rTk_18
    have t1349 : ty1321 c760 = 19 := gSg.typ g1324 sS1294.1 t1260 rTk_19
    have t1350 : ty1321 c831 = 20 := gSg.typ g1324 sS1294.1 t1261 rTk_20
    have t1351 : ty1321 c905 = 21 := gSg.typ g1324 sS1294.1 t1262 rTk_21
    have t1352 : ty1321 c982 = 22 := gSg.typ g1324 sS1294.1 t1263 rTk_22
    have t1353 : ty1321 c1065 = 23 := gSg.typ g1324 sS1294.1 t1264 rTk_23
    have t1354 : ty1321 c1148 = 24 := gSg.typ g1324 sS1294.1 t1265 rTk_24
    have t1355 : ty1321 c1234 = 25 := gSg.typ g1324 sS1294.1 tc1234 rTk_25
    have s1356 := gSg.rawat g1324 rf1295 (fun w => by cases w) t1242 (by decide) s1298
    have s1357 := gSg.rawat g1324 rf1295 (fun w => by cases w) t1242 (by decide) s1299
    have s1358 := gSg.rawat g1324 rf1295 (fun w => by cases w) t1242 (by decide) s1300
    have s1359 := gSg.rawat g1324 rf1295 (fun w => by cases w) t1242 (by decide) s1301
    have s1360 := gSg.rawat g1324 rf1295 (fun w => by cases w) t1242 (by decide) s1302
    have s1361 := gSg.rawat g1324 rf1295 (fun w => by cases w) t1242 (by decide) s1303
    have s1362 := gSg.rawat g1324 rf1295 (fun w => by cases w) t1242 (by decide) s1304
    have s1363 := gSg.rawat g1324 rf1295 (fun w => by cases w) t1242 (by decide) s1305
    have s1364 := gSg.rawat g1324 rf1295 (fun w => by cases w) t1242 (by decide) s1306
    have s1365 := gSg.rawat g1324 rf1295 (fun w => by cases w) t1242 (by decide) s1307
    have s1366 := gSg.rawat g1324 rf1295 (fun w => by cases w) t1242 (by decide) s1308
    have s1367 := gSg.rawat g1324 rf1295 (fun w => by cases w) t1242 (by decide) s1309
    have s1368 := gSg.rawat g1324 rf1295 (fun w => by cases w) t1242 (by decide) s1310
    have s1369 := gSg.rawat g1324 rf1295 (fun w => by cases w) t1242 (by decide) s1311
    have s1370 := gSg.rawat g1324 rf1295 (fun w => by cases w) t1242 (by decide) s1312
    have s1371 := gSg.rawat g1324 rf1295 (fun w => by cases w) t1242 (by decide) s1313
    have s1372 := gSg.rawat g1324 rf1295 (fun w => by cases w) t1242 (by decide) s1314
    have s1373 := gSg.rawat g1324 rf1295 (fun w => by cases w) t1242 (by decide) s1315
    have s1374 := gSg.rawat g1324 rf1295 (fun w => by cases w) t1242 (by decide) s1316
    have s1375 := gSg.rawat g1324 rf1295 (fun w => by cases w) t1242 (by decide) s1317
    have s1376 := gSg.rawat g1324 rf1295 (fun w => by cases w) t1242 (by decide) s1318
    have s1377 := gSg.rawat g1324 rf1295 (fun w => by cases w) t1242 (by decide) s1319
    have s1378 := gSg.rawat g1324 rf1295 (fun w => by cases w) t1242 (by decide) s1320
    have s1379 := gSg.rawat g1324 rf1295 (fun w => by cases w) t1242 (by decide) eh1291
    have pr1380 : gNo [1, 27, 28, 29, 30, 31, 32, 33, 34, 35, 36, 37, 38, 39, 40, 41, 42] ty1321 := gNo.gr g1324 (by decide +kernel) (gNo.sub (by decide +kernel) pr1289)
    have sS1381 : gSs rT 1027 ty1321 [8999, 10999, 31999] h1322 h1322 := gSs.rf g1324.1
    clear G1293 dd1297 pr1289 rf1295 rf1296 s1298 s1299 s1300 s1301 s1302 s1303 s1304 s1305 s1306 s1307 s1308 s1309 s1310 s1311 s1312 s1313 s1314 s1315 s1316 s1317 s1318 s1319 s1320 sS1294 t1242 t1243 t1244 t1245 t1246 t1247 t1248 t1249 t1250 t1251 t1252 t1253 t1254 t1255 t1256 t1257 t1258 t1259 t1260 t1261 t1262 t1263 t1264 t1265 uq1236
    have hoz1382 : gRn 1024 ty1321 26 (fun _ => 0) h1322 := gRn.new uq1325 tc1323 (by decide) (fun _ => rfl) (fun k => dc1323 k)
    refine gs_rput rfl (by decide) rfl sS1381.1 t1331 nx rw1327.2.1 rf1328 rfl (Or.inr rfl) (fun h1383 g1384 nh1383 mh1383 kh1383 zh1383 eh1383 fh1383 => ?_)
    have G1385 : gSg [1, 2, 3, 4, 5, 6, 7, 8, 9, 10, 11, 12, 13, 14, 15, 16, 17, 18, 19, 20, 21, 22, 23, 24, 25, 26, 27, 28, 29, 30, 31, 32, 33, 34, 35, 36, 37, 38, 39, 40, 41, 42, 200] [x] [8999, 10999, 31999] ty h ty1321 h1383 := gSg.tr (gSg.ss G1326 sS1381 (by decide)) g1384 (by decide) (by decide) (fun x hx => Or.inr hx)
    have pr1386 := gRn.gr g1384 sS1381.1 rfl (by decide) (by decide) hoz1382
    have sS1387 : gSs rT 1027 ty1321 [8999, 10999, 31999] h1383 h1383 := gSs.rf g1384.1
    have rf1388 := Nat.lt_of_lt_of_eq rw1327.2.1 nh1383.symm
    have rf1389 := zh1383.trans rf1329
    have dd1390 : ∀ k, ¬ k ∈ ([49, 40, 38, 37, 36, 35, 34, 33, 32, 31, 30, 29, 28, 27, 26, 25, 15, 14, 13, 12, 11, 10, 9, 4, 2] : List Nat) → h1383.2.2.2.2 x k = defaultValue (gGG.2.1 12 k) := raw_dp fh1383 dd1330
    have s1391 := (fh1383 2 (by decide)).trans s1356
    have s1392 := (fh1383 4 (by decide)).trans s1357
    have s1393 := (fh1383 9 (by decide)).trans s1358
    have s1394 := (fh1383 10 (by decide)).trans s1359
    have s1395 := (fh1383 11 (by decide)).trans s1360
    have s1396 := (fh1383 12 (by decide)).trans s1361
    have s1397 := (fh1383 13 (by decide)).trans s1362
    have s1398 := (fh1383 14 (by decide)).trans s1363
    have s1399 := (fh1383 15 (by decide)).trans s1364
    have s1400 := (fh1383 25 (by decide)).trans s1365
    have s1401 := (fh1383 26 (by decide)).trans s1366
    have s1402 := (fh1383 27 (by decide)).trans s1367
    have s1403 := (fh1383 28 (by decide)).trans s1368
    have s1404 := (fh1383 29 (by decide)).trans s1369
    have s1405 := (fh1383 30 (by decide)).trans s1370
    have s1406 := (fh1383 31 (by decide)).trans s1371
    have s1407 := (fh1383 32 (by decide)).trans s1372
    have s1408 := (fh1383 33 (by decide)).trans s1373
    have s1409 := (fh1383 34 (by decide)).trans s1374
    have s1410 := (fh1383 35 (by decide)).trans s1375
    have s1411 := (fh1383 36 (by decide)).trans s1376
    have s1412 := (fh1383 37 (by decide)).trans s1377
    have s1413 := (fh1383 38 (by decide)).trans s1378
    have s1414 := (fh1383 40 (by decide)).trans s1379
    clear G1326 dd1330 rf1328 rf1329 rw1327 s1356 s1357 s1358 s1359 s1360 s1361 s1362 s1363 s1364 s1365 s1366 s1367 s1368 s1369 s1370 s1371 s1372 s1373 s1374 s1375 s1376 s1377 s1378 s1379 sS1381
    have lp1415 := cmlp1415 d hJ x nx c3 c23 c46 c72 c101 c133 c171 c209 c250 c294 c341 c391 c447 c503 c562 c624 c689 c760 c831 c905 c982 c1065 c1148 c1234 c1323
    have G3754 : gSg [1, 2, 3, 4, 5, 6, 7, 8, 9, 10, 11, 12, 13, 14, 15, 16, 17, 18, 19, 20, 21, 22, 23, 24, 25, 26, 27, 28, 29, 30, 31, 32, 33, 34, 35, 36, 37, 38, 39, 40, 41, 42, 200] [x] [8999, 10999, 31999] ty h ty1321 h1383 := gSg.ss G1385 sS1387 (by decide)
    exact gz_wk (lp1415 _ ty1321 h1383  (Nat.lt_succ_self _) G3754 uq1325 t1331 t1332 t1333 t1334 t1335 t1336 t1337 t1338 t1339 t1340 t1341 t1342 t1343 t1344 t1345 t1346 t1347 t1348 t1349 t1350 t1351 t1352 t1353 t1354 t1355 tc1323 (by omega) (by omega) s1391 s1392 s1393 s1394 s1395 s1396 s1397 s1398 s1399 s1400 s1401 s1402 s1403 s1404 s1405 s1406 s1407 s1408 s1409 s1410 s1411 s1412 s1413 s1414 eh1383 pr1380 pr1386 rf1388 kh1383 rf1389 dd1390) (gLw.s (gLw.n (gLw.n (gLw.n (gLw.n gLw.z)))))
set_option maxRecDepth 20000 in
set_option maxHeartbeats 4000000 in
theorem cmlp755 (d : Nat) {ty : Nat → Nat} {h : gH} (hJ : gJ rT 1027 ty h) (x : Nat) (nx : 1027 ≤ x) (c3 c23 c46 c72 c101 c133 c171 c209 c250 c294 c341 c391 c447 c503 c562 c624 c689 : Nat) : ∀ (fu : Nat) (ty757 : Nat → Nat) (h756 : gH), ((1 : Int)).toNat < fu → gSg [1, 2, 3, 4, 5, 6, 7, 8, 9, 10, 11, 12, 13, 14, 15, 16, 17, 18, 19, 20, 21, 22, 23, 24, 25, 26, 27, 28, 29, 30, 31, 32, 33, 34, 35, 36, 37, 38, 39, 40, 41, 42, 200] [x] [8999, 10999, 31999] ty h ty757 h756 → gUq ty757 → ty757 x = 200 → ty757 c3 = 2 → ty757 c23 = 3 → ty757 c46 = 4 → ty757 c72 = 5 → ty757 c101 = 6 → ty757 c133 = 7 → ty757 c171 = 8 → ty757 c209 = 9 → ty757 c250 = 10 → ty757 c294 = 11 → ty757 c341 = 12 → ty757 c391 = 13 → ty757 c447 = 14 → ty757 c503 = 15 → ty757 c562 = 16 → ty757 c624 = 17 → ty757 c689 = 18 → ((h756.1 : Int) = h.1 + 17) → ((h756.2.1 : Int) = h.2.1 + 10776) → h756.2.2.2.2 x 2 = .ref c3 → h756.2.2.2.2 x 4 = .ref c23 → h756.2.2.2.2 x 9 = .ref c46 → h756.2.2.2.2 x 10 = .ref c72 → h756.2.2.2.2 x 11 = .ref c101 → h756.2.2.2.2 x 12 = .ref c133 → h756.2.2.2.2 x 13 = .ref c171 → h756.2.2.2.2 x 14 = .ref c209 → h756.2.2.2.2 x 15 = .ref c250 → h756.2.2.2.2 x 25 = .ref c294 → h756.2.2.2.2 x 26 = .ref c341 → h756.2.2.2.2 x 27 = .ref c391 → h756.2.2.2.2 x 28 = .ref c447 → h756.2.2.2.2 x 29 = .ref c503 → h756.2.2.2.2 x 30 = .ref c562 → h756.2.2.2.2 x 31 = .ref c624 → h756.2.2.2.2 x 32 = .ref c689 → gNo [1, 19, 20, 21, 22, 23, 24, 25, 26, 27, 28, 29, 30, 31, 32, 33, 34, 35, 36, 37, 38, 39, 40, 41, 42] ty757 → x < h756.1 → h756.2.2.1 x = some (.inr 12) → h756.2.2.2.1 x = 0 → (∀ k, ¬ k ∈ ([32, 31, 30, 29, 28, 27, 26, 25, 15, 14, 13, 12, 11, 10, 9, 4, 2] : List Nat) → h756.2.2.2.2 x k = defaultValue (gGG.2.1 12 k)) → gz gPP gGG gcn (d + 1) gt130 139 [some (.ref x), none, none, none, none] [] h756 (fun q _ => ∃ ty9 : Nat → Nat, gSg [1, 2, 3, 4, 5, 6, 7, 8, 9, 10, 11, 12, 13, 14, 15, 16, 17, 18, 19, 20, 21, 22, 23, 24, 25, 26, 27, 28, 29, 30, 31, 32, 33, 34, 35, 36, 37, 38, 39, 40, 41, 42, 200] [x] [8999, 10999, 31999] ty h ty9 q.2.2 ∧ ∃ ip n1 cw ch iv1 wr1 : Int, ty9 x = 1 ∧ gfin gt130 q.1 q.2.1 = some none ∧ q.2.2.2.2.2.2 x 16 = .int (zi ip) ∧ 0 ≤ ip ∧ ip ≤ 1 ∧ q.2.2.2.2.2.2 x 53 = .int (zi n1) ∧ 0 ≤ n1 ∧ n1 ≤ 10 ∧ q.2.2.2.2.2.2 x 50 = .int (zi cw) ∧ 0 ≤ cw ∧ cw ≤ 32 ∧ q.2.2.2.2.2.2 x 51 = .int (zi ch) ∧ 0 ≤ ch ∧ ch ≤ 32 ∧ q.2.2.2.2.2.2 x 52 = .int (zi iv1) ∧ 0 ≤ iv1 ∧ iv1 ≤ 100 ∧ q.2.2.2.2.2.2 x 59 = .int (zi wr1) ∧ 0 ≤ wr1 ∧ wr1 ≤ 60000 ∧ (ip = 0) ∧ (n1 = 0) ∧ (cw = 0) ∧ (ch = 0) ∧ (iv1 = 0) ∧ (wr1 = 0) ∧ ((q.2.2.1 : Int) = h.1 + 41) ∧ ((q.2.2.2.1 : Int) = h.2.1 + 88652) ∧ (gTs ty9 0 q.2.2) ∧ (gMw ty9 (((fun _ => 16, fun _ => 0, fun _ => 0, fun _ => 0, fun _ => 0, fun _ => 0, fun _ => -1), (0, 0, 0, fun _ => 0)) : gSS) q.2.2) ∧ (gRn 64 ty9 10 (fun i9 => eZz ((i9 : Nat) : Int)) q.2.2) ∧ gUq ty9) := by
  intro fu
  induction fu with
  | zero => intro ty757 h756  hm; exact absurd hm (Nat.not_lt_zero _)
  | succ fu ihlp755 =>
    intro ty757 h756  lp755m lp755G lp755u lp755c0 lp755c1 lp755c2 lp755c3 lp755c4 lp755c5 lp755c6 lp755c7 lp755c8 lp755c9 lp755c10 lp755c11 lp755c12 lp755c13 lp755c14 lp755c15 lp755c16 lp755c17 lp755f0 lp755f1 lp755k0 lp755k1 lp755k2 lp755k3 lp755k4 lp755k5 lp755k6 lp755k7 lp755k8 lp755k9 lp755k10 lp755k11 lp755k12 lp755k13 lp755k14 lp755k15 lp755k16 lp755k17 lp755w0 lp755w1 lp755w2 lp755w3
    have sh756 : gSs rT 1027 ty757 [8999, 10999, 31999] h756 h756 := gSs.rf lp755G.1
    refine gz_s 2 (pc' := 141) (L' := [some (.ref x), none, none, none, none]) (S' := [.int (zi 3), .ref x]) rfl ?_
    refine gs_newr 19 rfl (by decide) rfl sh756.1 (Nat.le_of_lt (Nat.lt_of_le_of_lt (gJ.cell sh756.1 lp755c1 rfl).1 (gJ.cell sh756.1 lp755c1 rfl).2.1)) (by omega) (by omega) rfl rfl (by show (3 : Int) ≤ _; omega) (by show _ ≤ (3 : Int); omega) (fun _ _ => gos_i (by decide) (by decide)) (fun ty758 h759 c760 g761 tc760 lc760 nc760 mc760 ec760 dc760 uc760 => ?_)
    have gac760 : h.1 ≤ c760 := by have h8 := lp755G.2.1; have h9 := sh756.2.1; omega
    have uq762 := uc760 lp755u (Or.inr (gNo.sub (by decide +kernel) lp755k17))
    have G763 : gSg [1, 2, 3, 4, 5, 6, 7, 8, 9, 10, 11, 12, 13, 14, 15, 16, 17, 18, 19, 20, 21, 22, 23, 24, 25, 26, 27, 28, 29, 30, 31, 32, 33, 34, 35, 36, 37, 38, 39, 40, 41, 42, 200] [x] [8999, 10999, 31999] ty h ty758 h759 := gSg.tr (gSg.ss lp755G sh756 (by decide)) g761 (by decide) (by decide) (fun x hx => by cases hx)
    have rw764 := gSg.raw g761 lp755w0 (fun w => by cases w)
    have rf765 := (rw764.2.2.1.trans lp755w1)
    have rf766 := (rw764.2.2.2.trans lp755w2)
    have dd767 := gSg.rawd (ci := 12) (ps := [32, 31, 30, 29, 28, 27, 26, 25, 15, 14, 13, 12, 11, 10, 9, 4, 2]) g761 lp755w0 (fun w => by cases w) lp755c0 (by decide) lp755w3
    have t768 : ty758 x = 200 := rw764.1.trans lp755c0
    have t769 : ty758 c3 = 2 := gSg.typ g761 sh756.1 lp755c1 rTk_2
    have t770 : ty758 c23 = 3 := gSg.typ g761 sh756.1 lp755c2 rTk_3
    have t771 : ty758 c46 = 4 := gSg.typ g761 sh756.1 lp755c3 rTk_4
    have t772 : ty758 c72 = 5 := gSg.typ g761 sh756.1 lp755c4 rTk_5
    have t773 : ty758 c101 = 6 := gSg.typ g761 sh756.1 lp755c5 rTk_6
    have t774 : ty758 c133 = 7 := gSg.typ g761 sh756.1 lp755c6 rTk_7
    have t775 : ty758 c171 = 8 := gSg.typ g761 sh756.1 lp755c7 rTk_8
    have t776 : ty758 c209 = 9 := gSg.typ g761 sh756.1 lp755c8 rTk_9
    have t777 : ty758 c250 = 10 := gSg.typ g761 sh756.1 lp755c9 rTk_10
    have t778 : ty758 c294 = 11 := gSg.typ g761 sh756.1 lp755c10 rTk_11
    have t779 : ty758 c341 = 12 := gSg.typ g761 sh756.1 lp755c11 rTk_12
    have t780 : ty758 c391 = 13 := gSg.typ g761 sh756.1 lp755c12 rTk_13
    have t781 : ty758 c447 = 14 := gSg.typ g761 sh756.1 lp755c13 rTk_14
    have t782 : ty758 c503 = 15 := gSg.typ g761 sh756.1 lp755c14 rTk_15
    have t783 : ty758 c562 = 16 := gSg.typ g761 sh756.1 lp755c15 rTk_16
    have t784 : ty758 c624 = 17 := gSg.typ g761 sh756.1 lp755c16 rTk_17
    have t785 : ty758 c689 = 18 := gSg.typ g761 sh756.1 lp755c17 rTk_18
    have s786 := gSg.rawat g761 lp755w0 (fun w => by cases w) lp755c0 (by decide) lp755k0
    have s787 := gSg.rawat g761 lp755w0 (fun w => by cases w) lp755c0 (by decide) lp755k1
    have s788 := gSg.rawat g761 lp755w0 (fun w => by cases w) lp755c0 (by decide) lp755k2
    have s789 := gSg.rawat g761 lp755w0 (fun w => by cases w) lp755c0 (by decide) lp755k3
    have s790 := gSg.rawat g761 lp755w0 (fun w => by cases w) lp755c0 (by decide) lp755k4
    have s791 := gSg.rawat g761 lp755w0 (fun w => by cases w) lp755c0 (by decide) lp755k5
    have s792 := gSg.rawat g761 lp755w0 (fun w => by cases w) lp755c0 (by decide) lp755k6
    have s793 := gSg.rawat g761 lp755w0 (fun w => by cases w) lp755c0 (by decide) lp755k7
    have s794 := gSg.rawat g761 lp755w0 (fun w => by cases w) lp755c0 (by decide) lp755k8
    have s795 := gSg.rawat g761 lp755w0 (fun w => by cases w) lp755c0 (by decide) lp755k9
    have s796 := gSg.rawat g761 lp755w0 (fun w => by cases w) lp755c0 (by decide) lp755k10
    have s797 := gSg.rawat g761 lp755w0 (fun w => by cases w) lp755c0 (by decide) lp755k11
    have s798 := gSg.rawat g761 lp755w0 (fun w => by cases w) lp755c0 (by decide) lp755k12
    have s799 := gSg.rawat g761 lp755w0 (fun w => by cases w) lp755c0 (by decide) lp755k13
    have s800 := gSg.rawat g761 lp755w0 (fun w => by cases w) lp755c0 (by decide) lp755k14
    have s801 := gSg.rawat g761 lp755w0 (fun w => by cases w) lp755c0 (by decide) lp755k15
    have s802 := gSg.rawat g761 lp755w0 (fun w => by cases w) lp755c0 (by decide) lp755k16
    have pr803 : gNo [1, 20, 21, 22, 23, 24, 25, 26, 27, 28, 29, 30, 31, 32, 33, 34, 35, 36, 37, 38, 39, 40, 41, 42] ty758 := gNo.gr g761 (by decide +kernel) (gNo.sub (by decide +kernel) lp755k17)
    have sS804 : gSs rT 1027 ty758 [8999, 10999, 31999] h759 h759 := gSs.rf g761.1
    refine gs_rput rfl (by decide) rfl sS804.1 t768 nx rw764.2.1 rf765 rfl (Or.inr rfl) (fun h805 g806 nh805 mh805 kh805 zh805 eh805 fh805 => ?_)
    have G807 : gSg [1, 2, 3, 4, 5, 6, 7, 8, 9, 10, 11, 12, 13, 14, 15, 16, 17, 18, 19, 20, 21, 22, 23, 24, 25, 26, 27, 28, 29, 30, 31, 32, 33, 34, 35, 36, 37, 38, 39, 40, 41, 42, 200] [x] [8999, 10999, 31999] ty h ty758 h805 := gSg.tr (gSg.ss G763 sS804 (by decide)) g806 (by decide) (by decide) (fun x hx => Or.inr hx)
    have sS808 : gSs rT 1027 ty758 [8999, 10999, 31999] h805 h805 := gSs.rf g806.1
    have rf809 := Nat.lt_of_lt_of_eq rw764.2.1 nh805.symm
    have rf810 := zh805.trans rf766
    have dd811 : ∀ k, ¬ k ∈ ([33, 32, 31, 30, 29, 28, 27, 26, 25, 15, 14, 13, 12, 11, 10, 9, 4, 2] : List Nat) → h805.2.2.2.2 x k = defaultValue (gGG.2.1 12 k) := raw_dp fh805 dd767
    have s812 := (fh805 2 (by decide)).trans s786
    have s813 := (fh805 4 (by decide)).trans s787
    have s814 := (fh805 9 (by decide)).trans s788
    have s815 := (fh805 10 (by decide)).trans s789
    have s816 := (fh805 11 (by decide)).trans s790
    have s817 := (fh805 12 (by decide)).trans s791
    have s818 := (fh805 13 (by decide)).trans s792
    have s819 := (fh805 14 (by decide)).trans s793
    have s820 := (fh805 15 (by decide)).trans s794
    have s821 := (fh805 25 (by decide)).trans s795
    have s822 := (fh805 26 (by decide)).trans s796
    have s823 := (fh805 27 (by decide)).trans s797
    have s824 := (fh805 28 (by decide)).trans s798
    have s825 := (fh805 29 (by decide)).trans s799
    have s826 := (fh805 30 (by decide)).trans s800
    have s827 := (fh805 31 (by decide)).trans s801
    have s828 := (fh805 32 (by decide)).trans s802
    clear G763 dd767 rf765 rf766 rw764 s786 s787 s788 s789 s790 s791 s792 s793 s794 s795 s796 s797 s798 s799 s800 s801 s802 sS804
    refine gz_s 2 (pc' := 148) (L' := [some (.ref x), none, none, none, none]) (S' := [.int (zi 3), .ref x]) rfl ?_
    refine gs_newr 20 rfl (by decide) rfl sS808.1 (Nat.le_of_lt (Nat.lt_of_le_of_lt (gJ.cell sS808.1 t769 rfl).1 (gJ.cell sS808.1 t769 rfl).2.1)) (by omega) (by omega) rfl rfl (by show (3 : Int) ≤ _; omega) (by show _ ≤ (3 : Int); omega) (fun _ _ => gos_i (by decide) (by decide)) (fun ty829 h830 c831 g832 tc831 lc831 nc831 mc831 ec831 dc831 uc831 => ?_)
    have gac831 : h.1 ≤ c831 := by have h8 := G807.2.1; have h9 := sS808.2.1; omega
    have uq833 := uc831 uq762 (Or.inr (gNo.sub (by decide +kernel) pr803))
    have G834 : gSg [1, 2, 3, 4, 5, 6, 7, 8, 9, 10, 11, 12, 13, 14, 15, 16, 17, 18, 19, 20, 21, 22, 23, 24, 25, 26, 27, 28, 29, 30, 31, 32, 33, 34, 35, 36, 37, 38, 39, 40, 41, 42, 200] [x] [8999, 10999, 31999] ty h ty829 h830 := gSg.tr (gSg.ss G807 sS808 (by decide)) g832 (by decide) (by decide) (fun x hx => by cases hx)
    have rw835 := gSg.raw g832 rf809 (fun w => by cases w)
    have rf836 := (rw835.2.2.1.trans kh805)
    have rf837 := (rw835.2.2.2.trans rf810)
    have dd838 := gSg.rawd (ci := 12) (ps := [33, 32, 31, 30, 29, 28, 27, 26, 25, 15, 14, 13, 12, 11, 10, 9, 4, 2]) g832 rf809 (fun w => by cases w) t768 (by decide) dd811
    have t839 : ty829 x = 200 := rw835.1.trans t768
    have t840 : ty829 c3 = 2 := gSg.typ g832 sS808.1 t769 rTk_2
    have t841 : ty829 c23 = 3 := gSg.typ g832 sS808.1 t770 rTk_3
    have t842 : ty829 c46 = 4 := gSg.typ g832 sS808.1 t771 rTk_4
    have t843 : ty829 c72 = 5 := gSg.typ g832 sS808.1 t772 rTk_5
    have t844 : ty829 c101 = 6 := gSg.typ g832 sS808.1 t773 rTk_6
    have t845 : ty829 c133 = 7 := gSg.typ g832 sS808.1 t774 rTk_7
    have t846 : ty829 c171 = 8 := gSg.typ g832 sS808.1 t775 rTk_8
    have t847 : ty829 c209 = 9 := gSg.typ g832 sS808.1 t776 rTk_9
    have t848 : ty829 c250 = 10 := gSg.typ g832 sS808.1 t777 rTk_10
    have t849 : ty829 c294 = 11 := gSg.typ g832 sS808.1 t778 rTk_11
    have t850 : ty829 c341 = 12 := gSg.typ g832 sS808.1 t779 rTk_12
    have t851 : ty829 c391 = 13 := gSg.typ g832 sS808.1 t780 rTk_13
    have t852 : ty829 c447 = 14 := gSg.typ g832 sS808.1 t781 rTk_14
    have t853 : ty829 c503 = 15 := gSg.typ g832 sS808.1 t782 rTk_15
    have t854 : ty829 c562 = 16 := gSg.typ g832 sS808.1 t783 rTk_16
    have t855 : ty829 c624 = 17 := gSg.typ g832 sS808.1 t784 rTk_17
    have t856 : ty829 c689 = 18 := gSg.typ g832 sS808.1 t785 rTk_18
    have t857 : ty829 c760 = 19 := gSg.typ g832 sS808.1 tc760 rTk_19
    have s858 := gSg.rawat g832 rf809 (fun w => by cases w) t768 (by decide) s812
    have s859 := gSg.rawat g832 rf809 (fun w => by cases w) t768 (by decide) s813
    have s860 := gSg.rawat g832 rf809 (fun w => by cases w) t768 (by decide) s814
    have s861 := gSg.rawat g832 rf809 (fun w => by cases w) t768 (by decide) s815
    have s862 := gSg.rawat g832 rf809 (fun w => by cases w) t768 (by decide) s816
    have s863 := gSg.rawat g832 rf809 (fun w => by cases w) t768 (by decide) s817
    have s864 := gSg.rawat g832 rf809 (fun w => by cases w) t768 (by decide) s818
    have s865 := gSg.rawat g832 rf809 (fun w => by cases w) t768 (by decide) s819
    have s866 := gSg.rawat g832 rf809 (fun w => by cases w) t768 (by decide) s820
    have s867 := gSg.rawat g832 rf809 (fun w => by cases w) t768 (by decide) s821
    have s868 := gSg.rawat g832 rf809 (fun w => by cases w) t768 (by decide) s822
    have s869 := gSg.rawat g832 rf809 (fun w => by cases w) t768 (by decide) s823
    have s870 := gSg.rawat g832 rf809 (fun w => by cases w) t768 (by decide) s824
    have s871 := gSg.rawat g832 rf809 (fun w => by cases w) t768 (by decide) s825
    have s872 := gSg.rawat g832 rf809 (fun w => by cases w) t768 (by decide) s826
    have s873 := gSg.rawat g832 rf809 (fun w => by cases w) t768 (by decide) s827
    have s874 := gSg.rawat g832 rf809 (fun w => by cases w) t768 (by decide) s828
    have s875 := gSg.rawat g832 rf809 (fun w => by cases w) t768 (by decide) eh805
    have pr876 : gNo [1, 21, 22, 23, 24, 25, 26, 27, 28, 29, 30, 31, 32, 33, 34, 35, 36, 37, 38, 39, 40, 41, 42] ty829 := gNo.gr g832 (by decide +kernel) (gNo.sub (by decide +kernel) pr803)
    have sS877 : gSs rT 1027 ty829 [8999, 10999, 31999] h830 h830 := gSs.rf g832.1
    clear G807 dd811 pr803 rf809 rf810 s812 s813 s814 s815 s816 s817 s818 s819 s820 s821 s822 s823 s824 s825 s826 s827 s828 sS808 t768 t769 t770 t771 t772 t773 t774 t775 t776 t777 t778 t779 t780 t781 t782 t783 t784 t785 uq762
    refine gs_rput rfl (by decide) rfl sS877.1 t839 nx rw835.2.1 rf836 rfl (Or.inr rfl) (fun h878 g879 nh878 mh878 kh878 zh878 eh878 fh878 => ?_)
    have G880 : gSg [1, 2, 3, 4, 5, 6, 7, 8, 9, 10, 11, 12, 13, 14, 15, 16, 17, 18, 19, 20, 21, 22, 23, 24, 25, 26, 27, 28, 29, 30, 31, 32, 33, 34, 35, 36, 37, 38, 39, 40, 41, 42, 200] [x] [8999, 10999, 31999] ty h ty829 h878 := gSg.tr (gSg.ss G834 sS877 (by decide)) g879 (by decide) (by decide) (fun x hx => Or.inr hx)
    have sS881 : gSs rT 1027 ty829 [8999, 10999, 31999] h878 h878 := gSs.rf g879.1
    have rf882 := Nat.lt_of_lt_of_eq rw835.2.1 nh878.symm
    have rf883 := zh878.trans rf837
    have dd884 : ∀ k, ¬ k ∈ ([34, 33, 32, 31, 30, 29, 28, 27, 26, 25, 15, 14, 13, 12, 11, 10, 9, 4, 2] : List Nat) → h878.2.2.2.2 x k = defaultValue (gGG.2.1 12 k) := raw_dp fh878 dd838
    have s885 := (fh878 2 (by decide)).trans s858
    have s886 := (fh878 4 (by decide)).trans s859
    have s887 := (fh878 9 (by decide)).trans s860
    have s888 := (fh878 10 (by decide)).trans s861
    have s889 := (fh878 11 (by decide)).trans s862
    have s890 := (fh878 12 (by decide)).trans s863
    have s891 := (fh878 13 (by decide)).trans s864
    have s892 := (fh878 14 (by decide)).trans s865
    have s893 := (fh878 15 (by decide)).trans s866
    have s894 := (fh878 25 (by decide)).trans s867
    have s895 := (fh878 26 (by decide)).trans s868
    have s896 := (fh878 27 (by decide)).trans s869
    have s897 := (fh878 28 (by decide)).trans s870
    have s898 := (fh878 29 (by decide)).trans s871
    have s899 := (fh878 30 (by decide)).trans s872
    have s900 := (fh878 31 (by decide)).trans s873
    have s901 := (fh878 32 (by decide)).trans s874
    have s902 := (fh878 33 (by decide)).trans s875
    clear G834 dd838 rf836 rf837 rw835 s858 s859 s860 s861 s862 s863 s864 s865 s866 s867 s868 s869 s870 s871 s872 s873 s874 s875 sS877
    refine gz_s 2 (pc' := 155) (L' := [some (.ref x), none, none, none, none]) (S' := [.int (zi 3), .ref x]) rfl ?_
    refine gs_newr 21 rfl (by decide) rfl sS881.1 (Nat.le_of_lt (Nat.lt_of_le_of_lt (gJ.cell sS881.1 t840 rfl).1 (gJ.cell sS881.1 t840 rfl).2.1)) (by omega) (by omega) rfl rfl (by show (3 : Int) ≤ _; omega) (by show _ ≤ (3 : Int); omega) (fun _ _ => gos_i (by decide) (by decide)) (fun ty903 h904 c905 g906 tc905 lc905 nc905 mc905 ec905 dc905 uc905 => ?_)
    have gac905 : h.1 ≤ c905 := by have h8 := G880.2.1; have h9 := sS881.2.1; omega
    have uq907 := uc905 uq833 (Or.inr (gNo.sub (by decide +kernel) pr876))
    have G908 : gSg [1, 2, 3, 4, 5, 6, 7, 8, 9, 10, 11, 12, 13, 14, 15, 16, 17, 18, 19, 20, 21, 22, 23, 24, 25, 26, 27, 28, 29, 30, 31, 32, 33, 34, 35, 36, 37, 38, 39, 40, 41, 42, 200] [x] [8999, 10999, 31999] ty h ty903 h904 := gSg.tr (gSg.ss G880 sS881 (by decide)) g906 (by decide) (by decide) (fun x hx => by cases hx)
    have rw909 := gSg.raw g906 rf882 (fun w => by cases w)
    have rf910 := (rw909.2.2.1.trans kh878)
    have rf911 := (rw909.2.2.2.trans rf883)
    have dd912 := gSg.rawd (ci := 12) (ps := [34, 33, 32, 31, 30, 29, 28, 27, 26, 25, 15, 14, 13, 12, 11, 10, 9, 4, 2]) g906 rf882 (fun w => by cases w) t839 (by decide) dd884
    have t913 : ty903 x = 200 := rw909.1.trans t839
    have t914 : ty903 c3 = 2 := gSg.typ g906 sS881.1 t840 rTk_2
    have t915 : ty903 c23 = 3 := gSg.typ g906 sS881.1 t841 rTk_3
    have t916 : ty903 c46 = 4 := gSg.typ g906 sS881.1 t842 rTk_4
    have t917 : ty903 c72 = 5 := gSg.typ g906 sS881.1 t843 rTk_5
    have t918 : ty903 c101 = 6 := gSg.typ g906 sS881.1 t844 rTk_6
    have t919 : ty903 c133 = 7 := gSg.typ g906 sS881.1 t845 rTk_7
    have t920 : ty903 c171 = 8 := gSg.typ g906 sS881.1 t846 rTk_8
    have t921 : ty903 c209 = 9 := gSg.typ g906 sS881.1 t847 rTk_9
    have t922 : ty903 c250 = 10 := gSg.typ g906 sS881.1 t848 rTk_10
    have t923 : ty903 c294 = 11 := gSg.typ g906 sS881.1 t849 rTk_11
    have t924 : ty903 c341 = 12 := gSg.typ g906 sS881.1 t850 rTk_12
    have t925 : ty903 c391 = 13 := gSg.typ g906 sS881.1 t851 rTk_13
    have t926 : ty903 c447 = 14 := gSg.typ g906 sS881.1 t852 rTk_14
    have t927 : ty903 c503 = 15 := gSg.typ g906 sS881.1 t853 rTk_15
    have t928 : ty903 c562 = 16 := gSg.typ g906 sS881.1 t854 rTk_16
    have t929 : ty903 c624 = 17 := gSg.typ g906 sS881.1 t855 rTk_17
    have t930 : ty903 c689 = 18 := gSg.typ g906 sS881.1 t856 rTk_18
    have t931 : ty903 c760 = 19 := gSg.typ g906 sS881.1 t857 rTk_19
    have t932 : ty903 c831 = 20 := gSg.typ g906 sS881.1 tc831 rTk_20
    have s933 := gSg.rawat g906 rf882 (fun w => by cases w) t839 (by decide) s885
    have s934 := gSg.rawat g906 rf882 (fun w => by cases w) t839 (by decide) s886
    have s935 := gSg.rawat g906 rf882 (fun w => by cases w) t839 (by decide) s887
    have s936 := gSg.rawat g906 rf882 (fun w => by cases w) t839 (by decide) s888
    have s937 := gSg.rawat g906 rf882 (fun w => by cases w) t839 (by decide) s889
    have s938 := gSg.rawat g906 rf882 (fun w => by cases w) t839 (by decide) s890
    have s939 := gSg.rawat g906 rf882 (fun w => by cases w) t839 (by decide) s891
    have s940 := gSg.rawat g906 rf882 (fun w => by cases w) t839 (by decide) s892
    have s941 := gSg.rawat g906 rf882 (fun w => by cases w) t839 (by decide) s893
    have s942 := gSg.rawat g906 rf882 (fun w => by cases w) t839 (by decide) s894
    have s943 := gSg.rawat g906 rf882 (fun w => by cases w) t839 (by decide) s895
    have s944 := gSg.rawat g906 rf882 (fun w => by cases w) t839 (by decide) s896
    have s945 := gSg.rawat g906 rf882 (fun w => by cases w) t839 (by decide) s897
    have s946 := gSg.rawat g906 rf882 (fun w => by cases w) t839 (by decide) s898
    have s947 := gSg.rawat g906 rf882 (fun w => by cases w) t839 (by decide) s899
    have s948 := gSg.rawat g906 rf882 (fun w => by cases w) t839 (by decide) s900
    have s949 := gSg.rawat g906 rf882 (fun w => by cases w) t839 (by decide) s901
    have s950 := gSg.rawat g906 rf882 (fun w => by cases w) t839 (by decide) s902
    have s951 := gSg.rawat g906 rf882 (fun w => by cases w) t839 (by decide) eh878
    have pr952 : gNo [1, 22, 23, 24, 25, 26, 27, 28, 29, 30, 31, 32, 33, 34, 35, 36, 37, 38, 39, 40, 41, 42] ty903 := gNo.gr g906 (by decide +kernel) (gNo.sub (by decide +kernel) pr876)
    have sS953 : gSs rT 1027 ty903 [8999, 10999, 31999] h904 h904 := gSs.rf g906.1
    clear G880 dd884 pr876 rf882 rf883 s885 s886 s887 s888 s889 s890 s891 s892 s893 s894 s895 s896 s897 s898 s899 s900 s901 s902 sS881 t839 t840 t841 t842 t843 t844 t845 t846 t847 t848 t849 t850 t851 t852 t853 t854 t855 t856 t857 uq833
    refine gs_rput rfl (by decide) rfl sS953.1 t913 nx rw909.2.1 rf910 rfl (Or.inr rfl) (fun h954 g955 nh954 mh954 kh954 zh954 eh954 fh954 => ?_)
    have G956 : gSg [1, 2, 3, 4, 5, 6, 7, 8, 9, 10, 11, 12, 13, 14, 15, 16, 17, 18, 19, 20, 21, 22, 23, 24, 25, 26, 27, 28, 29, 30, 31, 32, 33, 34, 35, 36, 37, 38, 39, 40, 41, 42, 200] [x] [8999, 10999, 31999] ty h ty903 h954 := gSg.tr (gSg.ss G908 sS953 (by decide)) g955 (by decide) (by decide) (fun x hx => Or.inr hx)
    have sS957 : gSs rT 1027 ty903 [8999, 10999, 31999] h954 h954 := gSs.rf g955.1
    have rf958 := Nat.lt_of_lt_of_eq rw909.2.1 nh954.symm
    have rf959 := zh954.trans rf911
    have dd960 : ∀ k, ¬ k ∈ ([35, 34, 33, 32, 31, 30, 29, 28, 27, 26, 25, 15, 14, 13, 12, 11, 10, 9, 4, 2] : List Nat) → h954.2.2.2.2 x k = defaultValue (gGG.2.1 12 k) := raw_dp fh954 dd912
    have s961 := (fh954 2 (by decide)).trans s933
    have s962 := (fh954 4 (by decide)).trans s934
    have s963 := (fh954 9 (by decide)).trans s935
    have s964 := (fh954 10 (by decide)).trans s936
    have s965 := (fh954 11 (by decide)).trans s937
    have s966 := (fh954 12 (by decide)).trans s938
    have s967 := (fh954 13 (by decide)).trans s939
    have s968 := (fh954 14 (by decide)).trans s940
    have s969 := (fh954 15 (by decide)).trans s941
    have s970 := (fh954 25 (by decide)).trans s942
    have s971 := (fh954 26 (by decide)).trans s943
    have s972 := (fh954 27 (by decide)).trans s944
    have s973 := (fh954 28 (by decide)).trans s945
    have s974 := (fh954 29 (by decide)).trans s946
    have s975 := (fh954 30 (by decide)).trans s947
    have s976 := (fh954 31 (by decide)).trans s948
    have s977 := (fh954 32 (by decide)).trans s949
    have s978 := (fh954 33 (by decide)).trans s950
    have s979 := (fh954 34 (by decide)).trans s951
    clear G908 dd912 rf910 rf911 rw909 s933 s934 s935 s936 s937 s938 s939 s940 s941 s942 s943 s944 s945 s946 s947 s948 s949 s950 s951 sS953
    refine gz_s 2 (pc' := 162) (L' := [some (.ref x), none, none, none, none]) (S' := [.int (zi 3), .ref x]) rfl ?_
    refine gs_newr 22 rfl (by decide) rfl sS957.1 (Nat.le_of_lt (Nat.lt_of_le_of_lt (gJ.cell sS957.1 t914 rfl).1 (gJ.cell sS957.1 t914 rfl).2.1)) (by omega) (by omega) rfl rfl (by show (3 : Int) ≤ _; omega) (by show _ ≤ (3 : Int); omega) (fun _ _ => gos_i (by decide) (by decide)) (fun ty980 h981 c982 g983 tc982 lc982 nc982 mc982 ec982 dc982 uc982 => ?_)
    have gac982 : h.1 ≤ c982 := by have h8 := G956.2.1; have h9 := sS957.2.1; omega
    have uq984 := uc982 uq907 (Or.inr (gNo.sub (by decide +kernel) pr952))
    have G985 : gSg [1, 2, 3, 4, 5, 6, 7, 8, 9, 10, 11, 12, 13, 14, 15, 16, 17, 18, 19, 20, 21, 22, 23, 24, 25, 26, 27, 28, 29, 30, 31, 32, 33, 34, 35, 36, 37, 38, 39, 40, 41, 42, 200] [x] [8999, 10999, 31999] ty h ty980 h981 := gSg.tr (gSg.ss G956 sS957 (by decide)) g983 (by decide) (by decide) (fun x hx => by cases hx)
    have rw986 := gSg.raw g983 rf958 (fun w => by cases w)
    have rf987 := (rw986.2.2.1.trans kh954)
    have rf988 := (rw986.2.2.2.trans rf959)
    have dd989 := gSg.rawd (ci := 12) (ps := [35, 34, 33, 32, 31, 30, 29, 28, 27, 26, 25, 15, 14, 13, 12, 11, 10, 9, 4, 2]) g983 rf958 (fun w => by cases w) t913 (by decide) dd960
    have t990 : ty980 x = 200 := rw986.1.trans t913
    have t991 : ty980 c3 = 2 := gSg.typ g983 sS957.1 t914 rTk_2
    have t992 : ty980 c23 = 3 := gSg.typ g983 sS957.1 t915 rTk_3
    have t993 : ty980 c46 = 4 := gSg.typ g983 sS957.1 t916 rTk_4
    have t994 : ty980 c72 = 5 := gSg.typ g983 sS957.1 t917 rTk_5
    have t995 : ty980 c101 = 6 := gSg.typ g983 sS957.1 t918 rTk_6
    have t996 : ty980 c133 = 7 := gSg.typ g983 sS957.1 t919 rTk_7
    have t997 : ty980 c171 = 8 := gSg.typ g983 sS957.1 t920 rTk_8
    have t998 : ty980 c209 = 9 := gSg.typ g983 sS957.1 t921 rTk_9
    have t999 : ty980 c250 = 10 := gSg.typ g983 sS957.1 t922 rTk_10
    have t1000 : ty980 c294 = 11 := gSg.typ g983 sS957.1 t923 rTk_11
    have t1001 : ty980 c341 = 12 := gSg.typ g983 sS957.1 t924 rTk_12
    have t1002 : ty980 c391 = 13 := gSg.typ g983 sS957.1 t925 rTk_13
    have t1003 : ty980 c447 = 14 := gSg.typ g983 sS957.1 t926 rTk_14
    have t1004 : ty980 c503 = 15 := gSg.typ g983 sS957.1 t927 rTk_15
    have t1005 : ty980 c562 = 16 := gSg.typ g983 sS957.1 t928 rTk_16
    have t1006 : ty980 c624 = 17 := gSg.typ g983 sS957.1 t929 rTk_17
    have t1007 : ty980 c689 = 18 := gSg.typ g983 sS957.1 t930 rTk_18
    have t1008 : ty980 c760 = 19 := gSg.typ g983 sS957.1 t931 rTk_19
    have t1009 : ty980 c831 = 20 := gSg.typ g983 sS957.1 t932 rTk_20
    have t1010 : ty980 c905 = 21 := gSg.typ g983 sS957.1 tc905 rTk_21
    have s1011 := gSg.rawat g983 rf958 (fun w => by cases w) t913 (by decide) s961
    have s1012 := gSg.rawat g983 rf958 (fun w => by cases w) t913 (by decide) s962
    have s1013 := gSg.rawat g983 rf958 (fun w => by cases w) t913 (by decide) s963
    have s1014 := gSg.rawat g983 rf958 (fun w => by cases w) t913 (by decide) s964
    have s1015 := gSg.rawat g983 rf958 (fun w => by cases w) t913 (by decide) s965
    have s1016 := gSg.rawat g983 rf958 (fun w => by cases w) t913 (by decide) s966
    have s1017 := gSg.rawat g983 rf958 (fun w => by cases w) t913 (by decide) s967
    have s1018 := gSg.rawat g983 rf958 (fun w => by cases w) t913 (by decide) s968
    have s1019 := gSg.rawat g983 rf958 (fun w => by cases w) t913 (by decide) s969
    have s1020 := gSg.rawat g983 rf958 (fun w => by cases w) t913 (by decide) s970
    have s1021 := gSg.rawat g983 rf958 (fun w => by cases w) t913 (by decide) s971
    have s1022 := gSg.rawat g983 rf958 (fun w => by cases w) t913 (by decide) s972
    have s1023 := gSg.rawat g983 rf958 (fun w => by cases w) t913 (by decide) s973
    have s1024 := gSg.rawat g983 rf958 (fun w => by cases w) t913 (by decide) s974
    have s1025 := gSg.rawat g983 rf958 (fun w => by cases w) t913 (by decide) s975
    have s1026 := gSg.rawat g983 rf958 (fun w => by cases w) t913 (by decide) s976
    have s1027 := gSg.rawat g983 rf958 (fun w => by cases w) t913 (by decide) s977
    have s1028 := gSg.rawat g983 rf958 (fun w => by cases w) t913 (by decide) s978
    have s1029 := gSg.rawat g983 rf958 (fun w => by cases w) t913 (by decide) s979
    have s1030 := gSg.rawat g983 rf958 (fun w => by cases w) t913 (by decide) eh954
    have pr1031 : gNo [1, 23, 24, 25, 26, 27, 28, 29, 30, 31, 32, 33, 34, 35, 36, 37, 38, 39, 40, 41, 42] ty980 := gNo.gr g983 (by decide +kernel) (gNo.sub (by decide +kernel) pr952)
    have sS1032 : gSs rT 1027 ty980 [8999, 10999, 31999] h981 h981 := gSs.rf g983.1
    clear G956 dd960 pr952 rf958 rf959 s961 s962 s963 s964 s965 s966 s967 s968 s969 s970 s971 s972 s973 s974 s975 s976 s977 s978 s979 sS957 t913 t914 t915 t916 t917 t918 t919 t920 t921 t922 t923 t924 t925 t926 t927 t928 t929 t930 t931 t932 uq907
    refine gs_rput rfl (by decide) rfl sS1032.1 t990 nx rw986.2.1 rf987 rfl (Or.inr rfl) (fun h1033 g1034 nh1033 mh1033 kh1033 zh1033 eh1033 fh1033 => ?_)
    have G1035 : gSg [1, 2, 3, 4, 5, 6, 7, 8, 9, 10, 11, 12, 13, 14, 15, 16, 17, 18, 19, 20, 21, 22, 23, 24, 25, 26, 27, 28, 29, 30, 31, 32, 33, 34, 35, 36, 37, 38, 39, 40, 41, 42, 200] [x] [8999, 10999, 31999] ty h ty980 h1033 := gSg.tr (gSg.ss G985 sS1032 (by decide)) g1034 (by decide) (by decide) (fun x hx => Or.inr hx)
    have sS1036 : gSs rT 1027 ty980 [8999, 10999, 31999] h1033 h1033 := gSs.rf g1034.1
    have rf1037 := Nat.lt_of_lt_of_eq rw986.2.1 nh1033.symm
    have rf1038 := zh1033.trans rf988
    have dd1039 : ∀ k, ¬ k ∈ ([36, 35, 34, 33, 32, 31, 30, 29, 28, 27, 26, 25, 15, 14, 13, 12, 11, 10, 9, 4, 2] : List Nat) → h1033.2.2.2.2 x k = defaultValue (gGG.2.1 12 k) := raw_dp fh1033 dd989
    have s1040 := (fh1033 2 (by decide)).trans s1011
    have s1041 := (fh1033 4 (by decide)).trans s1012
    have s1042 := (fh1033 9 (by decide)).trans s1013
    have s1043 := (fh1033 10 (by decide)).trans s1014
    have s1044 := (fh1033 11 (by decide)).trans s1015
    have s1045 := (fh1033 12 (by decide)).trans s1016
    have s1046 := (fh1033 13 (by decide)).trans s1017
    have s1047 := (fh1033 14 (by decide)).trans s1018
    have s1048 := (fh1033 15 (by decide)).trans s1019
    have s1049 := (fh1033 25 (by decide)).trans s1020
    have s1050 := (fh1033 26 (by decide)).trans s1021
    have s1051 := (fh1033 27 (by decide)).trans s1022
    have s1052 := (fh1033 28 (by decide)).trans s1023
    have s1053 := (fh1033 29 (by decide)).trans s1024
    have s1054 := (fh1033 30 (by decide)).trans s1025
    have s1055 := (fh1033 31 (by decide)).trans s1026
    have s1056 := (fh1033 32 (by decide)).trans s1027
    have s1057 := (fh1033 33 (by decide)).trans s1028
    have s1058 := (fh1033 34 (by decide)).trans s1029
    have s1059 := (fh1033 35 (by decide)).trans s1030
    clear G985 dd989 rf987 rf988 rw986 s1011 s1012 s1013 s1014 s1015 s1016 s1017 s1018 s1019 s1020 s1021 s1022 s1023 s1024 s1025 s1026 s1027 s1028 s1029 s1030 sS1032
    have lp1060 := cmlp1060 d hJ x nx c3 c23 c46 c72 c101 c133 c171 c209 c250 c294 c341 c391 c447 c503 c562 c624 c689 c760 c831 c905 c982
    have G3755 : gSg [1, 2, 3, 4, 5, 6, 7, 8, 9, 10, 11, 12, 13, 14, 15, 16, 17, 18, 19, 20, 21, 22, 23, 24, 25, 26, 27, 28, 29, 30, 31, 32, 33, 34, 35, 36, 37, 38, 39, 40, 41, 42, 200] [x] [8999, 10999, 31999] ty h ty980 h1033 := gSg.ss G1035 sS1036 (by decide)
    exact gz_wk (lp1060 _ ty980 h1033  (Nat.lt_succ_self _) G3755 uq984 t990 t991 t992 t993 t994 t995 t996 t997 t998 t999 t1000 t1001 t1002 t1003 t1004 t1005 t1006 t1007 t1008 t1009 t1010 tc982 (by omega) (by omega) s1040 s1041 s1042 s1043 s1044 s1045 s1046 s1047 s1048 s1049 s1050 s1051 s1052 s1053 s1054 s1055 s1056 s1057 s1058 s1059 eh1033 pr1031 rf1037 kh1033 rf1038 dd1039) (gLw.s (gLw.n (gLw.n (gLw.n (gLw.n gLw.z)))))
set_option maxRecDepth 20000 in
set_option maxHeartbeats 4000000 in
theorem cmlp442 (d : Nat) {ty : Nat → Nat} {h : gH} (hJ : gJ rT 1027 ty h) (x : Nat) (nx : 1027 ≤ x) (c3 c23 c46 c72 c101 c133 c171 c209 c250 c294 c341 c391 : Nat) : ∀ (fu : Nat) (ty444 : Nat → Nat) (h443 : gH), ((1 : Int)).toNat < fu → gSg [1, 2, 3, 4, 5, 6, 7, 8, 9, 10, 11, 12, 13, 14, 15, 16, 17, 18, 19, 20, 21, 22, 23, 24, 25, 26, 27, 28, 29, 30, 31, 32, 33, 34, 35, 36, 37, 38, 39, 40, 41, 42, 200] [x] [8999, 10999, 31999] ty h ty444 h443 → gUq ty444 → ty444 x = 200 → ty444 c3 = 2 → ty444 c23 = 3 → ty444 c46 = 4 → ty444 c72 = 5 → ty444 c101 = 6 → ty444 c133 = 7 → ty444 c171 = 8 → ty444 c209 = 9 → ty444 c250 = 10 → ty444 c294 = 11 → ty444 c341 = 12 → ty444 c391 = 13 → ((h443.1 : Int) = h.1 + 12) → ((h443.2.1 : Int) = h.2.1 + 10761) → h443.2.2.2.2 x 2 = .ref c3 → h443.2.2.2.2 x 4 = .ref c23 → h443.2.2.2.2 x 9 = .ref c46 → h443.2.2.2.2 x 10 = .ref c72 → h443.2.2.2.2 x 11 = .ref c101 → h443.2.2.2.2 x 12 = .ref c133 → h443.2.2.2.2 x 13 = .ref c171 → h443.2.2.2.2 x 14 = .ref c209 → h443.2.2.2.2 x 15 = .ref c250 → h443.2.2.2.2 x 25 = .ref c294 → h443.2.2.2.2 x 26 = .ref c341 → h443.2.2.2.2 x 27 = .ref c391 → gNo [1, 14, 15, 16, 17, 18, 19, 20, 21, 22, 23, 24, 25, 26, 27, 28, 29, 30, 31, 32, 33, 34, 35, 36, 37, 38, 39, 40, 41, 42] ty444 → x < h443.1 → h443.2.2.1 x = some (.inr 12) → h443.2.2.2.1 x = 0 → (∀ k, ¬ k ∈ ([27, 26, 25, 15, 14, 13, 12, 11, 10, 9, 4, 2] : List Nat) → h443.2.2.2.2 x k = defaultValue (gGG.2.1 12 k)) → gz gPP gGG gcn (d + 1) gt130 104 [some (.ref x), none, none, none, none] [] h443 (fun q _ => ∃ ty9 : Nat → Nat, gSg [1, 2, 3, 4, 5, 6, 7, 8, 9, 10, 11, 12, 13, 14, 15, 16, 17, 18, 19, 20, 21, 22, 23, 24, 25, 26, 27, 28, 29, 30, 31, 32, 33, 34, 35, 36, 37, 38, 39, 40, 41, 42, 200] [x] [8999, 10999, 31999] ty h ty9 q.2.2 ∧ ∃ ip n1 cw ch iv1 wr1 : Int, ty9 x = 1 ∧ gfin gt130 q.1 q.2.1 = some none ∧ q.2.2.2.2.2.2 x 16 = .int (zi ip) ∧ 0 ≤ ip ∧ ip ≤ 1 ∧ q.2.2.2.2.2.2 x 53 = .int (zi n1) ∧ 0 ≤ n1 ∧ n1 ≤ 10 ∧ q.2.2.2.2.2.2 x 50 = .int (zi cw) ∧ 0 ≤ cw ∧ cw ≤ 32 ∧ q.2.2.2.2.2.2 x 51 = .int (zi ch) ∧ 0 ≤ ch ∧ ch ≤ 32 ∧ q.2.2.2.2.2.2 x 52 = .int (zi iv1) ∧ 0 ≤ iv1 ∧ iv1 ≤ 100 ∧ q.2.2.2.2.2.2 x 59 = .int (zi wr1) ∧ 0 ≤ wr1 ∧ wr1 ≤ 60000 ∧ (ip = 0) ∧ (n1 = 0) ∧ (cw = 0) ∧ (ch = 0) ∧ (iv1 = 0) ∧ (wr1 = 0) ∧ ((q.2.2.1 : Int) = h.1 + 41) ∧ ((q.2.2.2.1 : Int) = h.2.1 + 88652) ∧ (gTs ty9 0 q.2.2) ∧ (gMw ty9 (((fun _ => 16, fun _ => 0, fun _ => 0, fun _ => 0, fun _ => 0, fun _ => 0, fun _ => -1), (0, 0, 0, fun _ => 0)) : gSS) q.2.2) ∧ (gRn 64 ty9 10 (fun i9 => eZz ((i9 : Nat) : Int)) q.2.2) ∧ gUq ty9) := by
  intro fu
  induction fu with
  | zero => intro ty444 h443  hm; exact absurd hm (Nat.not_lt_zero _)
  | succ fu ihlp442 =>
    intro ty444 h443  lp442m lp442G lp442u lp442c0 lp442c1 lp442c2 lp442c3 lp442c4 lp442c5 lp442c6 lp442c7 lp442c8 lp442c9 lp442c10 lp442c11 lp442c12 lp442f0 lp442f1 lp442k0 lp442k1 lp442k2 lp442k3 lp442k4 lp442k5 lp442k6 lp442k7 lp442k8 lp442k9 lp442k10 lp442k11 lp442k12 lp442w0 lp442w1 lp442w2 lp442w3
    have sh443 : gSs rT 1027 ty444 [8999, 10999, 31999] h443 h443 := gSs.rf lp442G.1
    refine gz_s 2 (pc' := 106) (L' := [some (.ref x), none, none, none, none]) (S' := [.int (zi 3), .ref x]) rfl ?_
    refine gs_newr 14 rfl (by decide) rfl sh443.1 (Nat.le_of_lt (Nat.lt_of_le_of_lt (gJ.cell sh443.1 lp442c1 rfl).1 (gJ.cell sh443.1 lp442c1 rfl).2.1)) (by omega) (by omega) rfl rfl (by show (3 : Int) ≤ _; omega) (by show _ ≤ (3 : Int); omega) (fun _ _ => gos_i (by decide) (by decide)) (fun ty445 h446 c447 g448 tc447 lc447 nc447 mc447 ec447 dc447 uc447 => ?_)
    have gac447 : h.1 ≤ c447 := by have h8 := lp442G.2.1; have h9 := sh443.2.1; omega
    have uq449 := uc447 lp442u (Or.inr (gNo.sub (by decide +kernel) lp442k12))
    have G450 : gSg [1, 2, 3, 4, 5, 6, 7, 8, 9, 10, 11, 12, 13, 14, 15, 16, 17, 18, 19, 20, 21, 22, 23, 24, 25, 26, 27, 28, 29, 30, 31, 32, 33, 34, 35, 36, 37, 38, 39, 40, 41, 42, 200] [x] [8999, 10999, 31999] ty h ty445 h446 := gSg.tr (gSg.ss lp442G sh443 (by decide)) g448 (by decide) (by decide) (fun x hx => by cases hx)
    have rw451 := gSg.raw g448 lp442w0 (fun w => by cases w)
    have rf452 := (rw451.2.2.1.trans lp442w1)
    have rf453 := (rw451.2.2.2.trans lp442w2)
    have dd454 := gSg.rawd (ci := 12) (ps := [27, 26, 25, 15, 14, 13, 12, 11, 10, 9, 4, 2]) g448 lp442w0 (fun w => by cases w) lp442c0 (by decide) lp442w3
    have t455 : ty445 x = 200 := rw451.1.trans lp442c0
    have t456 : ty445 c3 = 2 := gSg.typ g448 sh443.1 lp442c1 rTk_2
    have t457 : ty445 c23 = 3 := gSg.typ g448 sh443.1 lp442c2 rTk_3
    have t458 : ty445 c46 = 4 := gSg.typ g448 sh443.1 lp442c3 rTk_4
    have t459 : ty445 c72 = 5 := gSg.typ g448 sh443.1 lp442c4 rTk_5
    have t460 : ty445 c101 = 6 := gSg.typ g448 sh443.1 lp442c5 rTk_6
    have t461 : ty445 c133 = 7 := gSg.typ g448 sh443.1 lp442c6 rTk_7
    have t462 : ty445 c171 = 8 := gSg.typ g448 sh443.1 lp442c7 rTk_8
    have t463 : ty445 c209 = 9 := gSg.typ g448 sh443.1 lp442c8 rTk_9
    have t464 : ty445 c250 = 10 := gSg.typ g448 sh443.1 lp442c9 rTk_10
    have t465 : ty445 c294 = 11 := gSg.typ g448 sh443.1 lp442c10 rTk_11
    have t466 : ty445 c341 = 12 := gSg.typ g448 sh443.1 lp442c11 rTk_12
    have t467 : ty445 c391 = 13 := gSg.typ g448 sh443.1 lp442c12 rTk_13
    have s468 := gSg.rawat g448 lp442w0 (fun w => by cases w) lp442c0 (by decide) lp442k0
    have s469 := gSg.rawat g448 lp442w0 (fun w => by cases w) lp442c0 (by decide) lp442k1
    have s470 := gSg.rawat g448 lp442w0 (fun w => by cases w) lp442c0 (by decide) lp442k2
    have s471 := gSg.rawat g448 lp442w0 (fun w => by cases w) lp442c0 (by decide) lp442k3
    have s472 := gSg.rawat g448 lp442w0 (fun w => by cases w) lp442c0 (by decide) lp442k4
    have s473 := gSg.rawat g448 lp442w0 (fun w => by cases w) lp442c0 (by decide) lp442k5
    have s474 := gSg.rawat g448 lp442w0 (fun w => by cases w) lp442c0 (by decide) lp442k6
    have s475 := gSg.rawat g448 lp442w0 (fun w => by cases w) lp442c0 (by decide) lp442k7
    have s476 := gSg.rawat g448 lp442w0 (fun w => by cases w) lp442c0 (by decide) lp442k8
    have s477 := gSg.rawat g448 lp442w0 (fun w => by cases w) lp442c0 (by decide) lp442k9
    have s478 := gSg.rawat g448 lp442w0 (fun w => by cases w) lp442c0 (by decide) lp442k10
    have s479 := gSg.rawat g448 lp442w0 (fun w => by cases w) lp442c0 (by decide) lp442k11
    have pr480 : gNo [1, 15, 16, 17, 18, 19, 20, 21, 22, 23, 24, 25, 26, 27, 28, 29, 30, 31, 32, 33, 34, 35, 36, 37, 38, 39, 40, 41, 42] ty445 := gNo.gr g448 (by decide +kernel) (gNo.sub (by decide +kernel) lp442k12)
    have sS481 : gSs rT 1027 ty445 [8999, 10999, 31999] h446 h446 := gSs.rf g448.1
    refine gs_rput rfl (by decide) rfl sS481.1 t455 nx rw451.2.1 rf452 rfl (Or.inr rfl) (fun h482 g483 nh482 mh482 kh482 zh482 eh482 fh482 => ?_)
    have G484 : gSg [1, 2, 3, 4, 5, 6, 7, 8, 9, 10, 11, 12, 13, 14, 15, 16, 17, 18, 19, 20, 21, 22, 23, 24, 25, 26, 27, 28, 29, 30, 31, 32, 33, 34, 35, 36, 37, 38, 39, 40, 41, 42, 200] [x] [8999, 10999, 31999] ty h ty445 h482 := gSg.tr (gSg.ss G450 sS481 (by decide)) g483 (by decide) (by decide) (fun x hx => Or.inr hx)
    have sS485 : gSs rT 1027 ty445 [8999, 10999, 31999] h482 h482 := gSs.rf g483.1
    have rf486 := Nat.lt_of_lt_of_eq rw451.2.1 nh482.symm
    have rf487 := zh482.trans rf453
    have dd488 : ∀ k, ¬ k ∈ ([28, 27, 26, 25, 15, 14, 13, 12, 11, 10, 9, 4, 2] : List Nat) → h482.2.2.2.2 x k = defaultValue (gGG.2.1 12 k) := raw_dp fh482 dd454
    have s489 := (fh482 2 (by decide)).trans s468
    have s490 := (fh482 4 (by decide)).trans s469
    have s491 := (fh482 9 (by decide)).trans s470
    have s492 := (fh482 10 (by decide)).trans s471
    have s493 := (fh482 11 (by decide)).trans s472
    have s494 := (fh482 12 (by decide)).trans s473
    have s495 := (fh482 13 (by decide)).trans s474
    have s496 := (fh482 14 (by decide)).trans s475
    have s497 := (fh482 15 (by decide)).trans s476
    have s498 := (fh482 25 (by decide)).trans s477
    have s499 := (fh482 26 (by decide)).trans s478
    have s500 := (fh482 27 (by decide)).trans s479
    clear G450 dd454 rf452 rf453 rw451 s468 s469 s470 s471 s472 s473 s474 s475 s476 s477 s478 s479 sS481
    refine gz_s 2 (pc' := 113) (L' := [some (.ref x), none, none, none, none]) (S' := [.int (zi 3), .ref x]) rfl ?_
    refine gs_newr 15 rfl (by decide) rfl sS485.1 (Nat.le_of_lt (Nat.lt_of_le_of_lt (gJ.cell sS485.1 t456 rfl).1 (gJ.cell sS485.1 t456 rfl).2.1)) (by omega) (by omega) rfl rfl (by show (3 : Int) ≤ _; omega) (by show _ ≤ (3 : Int); omega) (fun _ _ => gos_i (by decide) (by decide)) (fun ty501 h502 c503 g504 tc503 lc503 nc503 mc503 ec503 dc503 uc503 => ?_)
    have gac503 : h.1 ≤ c503 := by have h8 := G484.2.1; have h9 := sS485.2.1; omega
    have uq505 := uc503 uq449 (Or.inr (gNo.sub (by decide +kernel) pr480))
    have G506 : gSg [1, 2, 3, 4, 5, 6, 7, 8, 9, 10, 11, 12, 13, 14, 15, 16, 17, 18, 19, 20, 21, 22, 23, 24, 25, 26, 27, 28, 29, 30, 31, 32, 33, 34, 35, 36, 37, 38, 39, 40, 41, 42, 200] [x] [8999, 10999, 31999] ty h ty501 h502 := gSg.tr (gSg.ss G484 sS485 (by decide)) g504 (by decide) (by decide) (fun x hx => by cases hx)
    have rw507 := gSg.raw g504 rf486 (fun w => by cases w)
    have rf508 := (rw507.2.2.1.trans kh482)
    have rf509 := (rw507.2.2.2.trans rf487)
    have dd510 := gSg.rawd (ci := 12) (ps := [28, 27, 26, 25, 15, 14, 13, 12, 11, 10, 9, 4, 2]) g504 rf486 (fun w => by cases w) t455 (by decide) dd488
    have t511 : ty501 x = 200 := rw507.1.trans t455
    have t512 : ty501 c3 = 2 := gSg.typ g504 sS485.1 t456 rTk_2
    have t513 : ty501 c23 = 3 := gSg.typ g504 sS485.1 t457 rTk_3
    have t514 : ty501 c46 = 4 := gSg.typ g504 sS485.1 t458 rTk_4
    have t515 : ty501 c72 = 5 := gSg.typ g504 sS485.1 t459 rTk_5
    have t516 : ty501 c101 = 6 := gSg.typ g504 sS485.1 t460 rTk_6
    have t517 : ty501 c133 = 7 := gSg.typ g504 sS485.1 t461 rTk_7
    have t518 : ty501 c171 = 8 := gSg.typ g504 sS485.1 t462 rTk_8
    have t519 : ty501 c209 = 9 := gSg.typ g504 sS485.1 t463 rTk_9
    have t520 : ty501 c250 = 10 := gSg.typ g504 sS485.1 t464 rTk_10
    have t521 : ty501 c294 = 11 := gSg.typ g504 sS485.1 t465 rTk_11
    have t522 : ty501 c341 = 12 := gSg.typ g504 sS485.1 t466 rTk_12
    have t523 : ty501 c391 = 13 := gSg.typ g504 sS485.1 t467 rTk_13
    have t524 : ty501 c447 = 14 := gSg.typ g504 sS485.1 tc447 rTk_14
    have s525 := gSg.rawat g504 rf486 (fun w => by cases w) t455 (by decide) s489
    have s526 := gSg.rawat g504 rf486 (fun w => by cases w) t455 (by decide) s490
    have s527 := gSg.rawat g504 rf486 (fun w => by cases w) t455 (by decide) s491
    have s528 := gSg.rawat g504 rf486 (fun w => by cases w) t455 (by decide) s492
    have s529 := gSg.rawat g504 rf486 (fun w => by cases w) t455 (by decide) s493
    have s530 := gSg.rawat g504 rf486 (fun w => by cases w) t455 (by decide) s494
    have s531 := gSg.rawat g504 rf486 (fun w => by cases w) t455 (by decide) s495
    have s532 := gSg.rawat g504 rf486 (fun w => by cases w) t455 (by decide) s496
    have s533 := gSg.rawat g504 rf486 (fun w => by cases w) t455 (by decide) s497
    have s534 := gSg.rawat g504 rf486 (fun w => by cases w) t455 (by decide) s498
    have s535 := gSg.rawat g504 rf486 (fun w => by cases w) t455 (by decide) s499
    have s536 := gSg.rawat g504 rf486 (fun w => by cases w) t455 (by decide) s500
    have s537 := gSg.rawat g504 rf486 (fun w => by cases w) t455 (by decide) eh482
    have pr538 : gNo [1, 16, 17, 18, 19, 20, 21, 22, 23, 24, 25, 26, 27, 28, 29, 30, 31, 32, 33, 34, 35, 36, 37, 38, 39, 40, 41, 42] ty501 := gNo.gr g504 (by decide +kernel) (gNo.sub (by decide +kernel) pr480)
    have sS539 : gSs rT 1027 ty501 [8999, 10999, 31999] h502 h502 := gSs.rf g504.1
    clear G484 dd488 pr480 rf486 rf487 s489 s490 s491 s492 s493 s494 s495 s496 s497 s498 s499 s500 sS485 t455 t456 t457 t458 t459 t460 t461 t462 t463 t464 t465 t466 t467 uq449
    refine gs_rput rfl (by decide) rfl sS539.1 t511 nx rw507.2.1 rf508 rfl (Or.inr rfl) (fun h540 g541 nh540 mh540 kh540 zh540 eh540 fh540 => ?_)
    have G542 : gSg [1, 2, 3, 4, 5, 6, 7, 8, 9, 10, 11, 12, 13, 14, 15, 16, 17, 18, 19, 20, 21, 22, 23, 24, 25, 26, 27, 28, 29, 30, 31, 32, 33, 34, 35, 36, 37, 38, 39, 40, 41, 42, 200] [x] [8999, 10999, 31999] ty h ty501 h540 := gSg.tr (gSg.ss G506 sS539 (by decide)) g541 (by decide) (by decide) (fun x hx => Or.inr hx)
    have sS543 : gSs rT 1027 ty501 [8999, 10999, 31999] h540 h540 := gSs.rf g541.1
    have rf544 := Nat.lt_of_lt_of_eq rw507.2.1 nh540.symm
    have rf545 := zh540.trans rf509
    have dd546 : ∀ k, ¬ k ∈ ([29, 28, 27, 26, 25, 15, 14, 13, 12, 11, 10, 9, 4, 2] : List Nat) → h540.2.2.2.2 x k = defaultValue (gGG.2.1 12 k) := raw_dp fh540 dd510
    have s547 := (fh540 2 (by decide)).trans s525
    have s548 := (fh540 4 (by decide)).trans s526
    have s549 := (fh540 9 (by decide)).trans s527
    have s550 := (fh540 10 (by decide)).trans s528
    have s551 := (fh540 11 (by decide)).trans s529
    have s552 := (fh540 12 (by decide)).trans s530
    have s553 := (fh540 13 (by decide)).trans s531
    have s554 := (fh540 14 (by decide)).trans s532
    have s555 := (fh540 15 (by decide)).trans s533
    have s556 := (fh540 25 (by decide)).trans s534
    have s557 := (fh540 26 (by decide)).trans s535
    have s558 := (fh540 27 (by decide)).trans s536
    have s559 := (fh540 28 (by decide)).trans s537
    clear G506 dd510 rf508 rf509 rw507 s525 s526 s527 s528 s529 s530 s531 s532 s533 s534 s535 s536 s537 sS539
    refine gz_s 2 (pc' := 120) (L' := [some (.ref x), none, none, none, none]) (S' := [.int (zi 3), .ref x]) rfl ?_
    refine gs_newr 16 rfl (by decide) rfl sS543.1 (Nat.le_of_lt (Nat.lt_of_le_of_lt (gJ.cell sS543.1 t512 rfl).1 (gJ.cell sS543.1 t512 rfl).2.1)) (by omega) (by omega) rfl rfl (by show (3 : Int) ≤ _; omega) (by show _ ≤ (3 : Int); omega) (fun _ _ => gos_i (by decide) (by decide)) (fun ty560 h561 c562 g563 tc562 lc562 nc562 mc562 ec562 dc562 uc562 => ?_)
    have gac562 : h.1 ≤ c562 := by have h8 := G542.2.1; have h9 := sS543.2.1; omega
    have uq564 := uc562 uq505 (Or.inr (gNo.sub (by decide +kernel) pr538))
    have G565 : gSg [1, 2, 3, 4, 5, 6, 7, 8, 9, 10, 11, 12, 13, 14, 15, 16, 17, 18, 19, 20, 21, 22, 23, 24, 25, 26, 27, 28, 29, 30, 31, 32, 33, 34, 35, 36, 37, 38, 39, 40, 41, 42, 200] [x] [8999, 10999, 31999] ty h ty560 h561 := gSg.tr (gSg.ss G542 sS543 (by decide)) g563 (by decide) (by decide) (fun x hx => by cases hx)
    have rw566 := gSg.raw g563 rf544 (fun w => by cases w)
    have rf567 := (rw566.2.2.1.trans kh540)
    have rf568 := (rw566.2.2.2.trans rf545)
    have dd569 := gSg.rawd (ci := 12) (ps := [29, 28, 27, 26, 25, 15, 14, 13, 12, 11, 10, 9, 4, 2]) g563 rf544 (fun w => by cases w) t511 (by decide) dd546
    have t570 : ty560 x = 200 := rw566.1.trans t511
    have t571 : ty560 c3 = 2 := gSg.typ g563 sS543.1 t512 rTk_2
    have t572 : ty560 c23 = 3 := gSg.typ g563 sS543.1 t513 rTk_3
    have t573 : ty560 c46 = 4 := gSg.typ g563 sS543.1 t514 rTk_4
    have t574 : ty560 c72 = 5 := gSg.typ g563 sS543.1 t515 rTk_5
    have t575 : ty560 c101 = 6 := gSg.typ g563 sS543.1 t516 rTk_6
    have t576 : ty560 c133 = 7 := gSg.typ g563 sS543.1 t517 rTk_7
    have t577 : ty560 c171 = 8 := gSg.typ g563 sS543.1 t518 rTk_8
    have t578 : ty560 c209 = 9 := gSg.typ g563 sS543.1 t519 rTk_9
    have t579 : ty560 c250 = 10 := gSg.typ g563 sS543.1 t520 rTk_10
    have t580 : ty560 c294 = 11 := gSg.typ g563 sS543.1 t521 rTk_11
    have t581 : ty560 c341 = 12 := gSg.typ g563 sS543.1 t522 rTk_12
    have t582 : ty560 c391 = 13 := gSg.typ g563 sS543.1 t523 rTk_13
    have t583 : ty560 c447 = 14 := gSg.typ g563 sS543.1 t524 rTk_14
    have t584 : ty560 c503 = 15 := gSg.typ g563 sS543.1 tc503 rTk_15
    have s585 := gSg.rawat g563 rf544 (fun w => by cases w) t511 (by decide) s547
    have s586 := gSg.rawat g563 rf544 (fun w => by cases w) t511 (by decide) s548
    have s587 := gSg.rawat g563 rf544 (fun w => by cases w) t511 (by decide) s549
    have s588 := gSg.rawat g563 rf544 (fun w => by cases w) t511 (by decide) s550
    have s589 := gSg.rawat g563 rf544 (fun w => by cases w) t511 (by decide) s551
    have s590 := gSg.rawat g563 rf544 (fun w => by cases w) t511 (by decide) s552
    have s591 := gSg.rawat g563 rf544 (fun w => by cases w) t511 (by decide) s553
    have s592 := gSg.rawat g563 rf544 (fun w => by cases w) t511 (by decide) s554
    have s593 := gSg.rawat g563 rf544 (fun w => by cases w) t511 (by decide) s555
    have s594 := gSg.rawat g563 rf544 (fun w => by cases w) t511 (by decide) s556
    have s595 := gSg.rawat g563 rf544 (fun w => by cases w) t511 (by decide) s557
    have s596 := gSg.rawat g563 rf544 (fun w => by cases w) t511 (by decide) s558
    have s597 := gSg.rawat g563 rf544 (fun w => by cases w) t511 (by decide) s559
    have s598 := gSg.rawat g563 rf544 (fun w => by cases w) t511 (by decide) eh540
    have pr599 : gNo [1, 17, 18, 19, 20, 21, 22, 23, 24, 25, 26, 27, 28, 29, 30, 31, 32, 33, 34, 35, 36, 37, 38, 39, 40, 41, 42] ty560 := gNo.gr g563 (by decide +kernel) (gNo.sub (by decide +kernel) pr538)
    have sS600 : gSs rT 1027 ty560 [8999, 10999, 31999] h561 h561 := gSs.rf g563.1
    clear G542 dd546 pr538 rf544 rf545 s547 s548 s549 s550 s551 s552 s553 s554 s555 s556 s557 s558 s559 sS543 t511 t512 t513 t514 t515 t516 t517 t518 t519 t520 t521 t522 t523 t524 uq505
    refine gs_rput rfl (by decide) rfl sS600.1 t570 nx rw566.2.1 rf567 rfl (Or.inr rfl) (fun h601 g602 nh601 mh601 kh601 zh601 eh601 fh601 => ?_)
    have G603 : gSg [1, 2, 3, 4, 5, 6, 7, 8, 9, 10, 11, 12, 13, 14, 15, 16, 17, 18, 19, 20, 21, 22, 23, 24, 25, 26, 27, 28, 29, 30, 31, 32, 33, 34, 35, 36, 37, 38, 39, 40, 41, 42, 200] [x] [8999, 10999, 31999] ty h ty560 h601 := gSg.tr (gSg.ss G565 sS600 (by decide)) g602 (by decide) (by decide) (fun x hx => Or.inr hx)
    have sS604 : gSs rT 1027 ty560 [8999, 10999, 31999] h601 h601 := gSs.rf g602.1
    have rf605 := Nat.lt_of_lt_of_eq rw566.2.1 nh601.symm
    have rf606 := zh601.trans rf568
    have dd607 : ∀ k, ¬ k ∈ ([30, 29, 28, 27, 26, 25, 15, 14, 13, 12, 11, 10, 9, 4, 2] : List Nat) → h601.2.2.2.2 x k = defaultValue (gGG.2.1 12 k) := raw_dp fh601 dd569
    have s608 := (fh601 2 (by decide)).trans s585
    have s609 := (fh601 4 (by decide)).trans s586
    have s610 := (fh601 9 (by decide)).trans s587
    have s611 := (fh601 10 (by decide)).trans s588
    have s612 := (fh601 11 (by decide)).trans s589
    have s613 := (fh601 12 (by decide)).trans s590
    have s614 := (fh601 13 (by decide)).trans s591
    have s615 := (fh601 14 (by decide)).trans s592
    have s616 := (fh601 15 (by decide)).trans s593
    have s617 := (fh601 25 (by decide)).trans s594
    have s618 := (fh601 26 (by decide)).trans s595
    have s619 := (fh601 27 (by decide)).trans s596
    have s620 := (fh601 28 (by decide)).trans s597
    have s621 := (fh601 29 (by decide)).trans s598
    clear G565 dd569 rf567 rf568 rw566 s585 s586 s587 s588 s589 s590 s591 s592 s593 s594 s595 s596 s597 s598 sS600
    refine gz_s 2 (pc' := 127) (L' := [some (.ref x), none, none, none, none]) (S' := [.int (zi 3), .ref x]) rfl ?_
    refine gs_newr 17 rfl (by decide) rfl sS604.1 (Nat.le_of_lt (Nat.lt_of_le_of_lt (gJ.cell sS604.1 t571 rfl).1 (gJ.cell sS604.1 t571 rfl).2.1)) (by omega) (by omega) rfl rfl (by show (3 : Int) ≤ _; omega) (by show _ ≤ (3 : Int); omega) (fun _ _ => gos_i (by decide) (by decide)) (fun ty622 h623 c624 g625 tc624 lc624 nc624 mc624 ec624 dc624 uc624 => ?_)
    have gac624 : h.1 ≤ c624 := by have h8 := G603.2.1; have h9 := sS604.2.1; omega
    have uq626 := uc624 uq564 (Or.inr (gNo.sub (by decide +kernel) pr599))
    have G627 : gSg [1, 2, 3, 4, 5, 6, 7, 8, 9, 10, 11, 12, 13, 14, 15, 16, 17, 18, 19, 20, 21, 22, 23, 24, 25, 26, 27, 28, 29, 30, 31, 32, 33, 34, 35, 36, 37, 38, 39, 40, 41, 42, 200] [x] [8999, 10999, 31999] ty h ty622 h623 := gSg.tr (gSg.ss G603 sS604 (by decide)) g625 (by decide) (by decide) (fun x hx => by cases hx)
    have rw628 := gSg.raw g625 rf605 (fun w => by cases w)
    have rf629 := (rw628.2.2.1.trans kh601)
    have rf630 := (rw628.2.2.2.trans rf606)
    have dd631 := gSg.rawd (ci := 12) (ps := [30, 29, 28, 27, 26, 25, 15, 14, 13, 12, 11, 10, 9, 4, 2]) g625 rf605 (fun w => by cases w) t570 (by decide) dd607
    have t632 : ty622 x = 200 := rw628.1.trans t570
    have t633 : ty622 c3 = 2 := gSg.typ g625 sS604.1 t571 rTk_2
    have t634 : ty622 c23 = 3 := gSg.typ g625 sS604.1 t572 rTk_3
    have t635 : ty622 c46 = 4 := gSg.typ g625 sS604.1 t573 rTk_4
    have t636 : ty622 c72 = 5 := gSg.typ g625 sS604.1 t574 rTk_5
    have t637 : ty622 c101 = 6 := gSg.typ g625 sS604.1 t575 rTk_6
    have t638 : ty622 c133 = 7 := gSg.typ g625 sS604.1 t576 rTk_7
    have t639 : ty622 c171 = 8 := gSg.typ g625 sS604.1 t577 rTk_8
    have t640 : ty622 c209 = 9 := gSg.typ g625 sS604.1 t578 rTk_9
    have t641 : ty622 c250 = 10 := gSg.typ g625 sS604.1 t579 rTk_10
    have t642 : ty622 c294 = 11 := gSg.typ g625 sS604.1 t580 rTk_11
    have t643 : ty622 c341 = 12 := gSg.typ g625 sS604.1 t581 rTk_12
    have t644 : ty622 c391 = 13 := gSg.typ g625 sS604.1 t582 rTk_13
    have t645 : ty622 c447 = 14 := gSg.typ g625 sS604.1 t583 rTk_14
    have t646 : ty622 c503 = 15 := gSg.typ g625 sS604.1 t584 rTk_15
    have t647 : ty622 c562 = 16 := gSg.typ g625 sS604.1 tc562 rTk_16
    have s648 := gSg.rawat g625 rf605 (fun w => by cases w) t570 (by decide) s608
    have s649 := gSg.rawat g625 rf605 (fun w => by cases w) t570 (by decide) s609
    have s650 := gSg.rawat g625 rf605 (fun w => by cases w) t570 (by decide) s610
    have s651 := gSg.rawat g625 rf605 (fun w => by cases w) t570 (by decide) s611
    have s652 := gSg.rawat g625 rf605 (fun w => by cases w) t570 (by decide) s612
    have s653 := gSg.rawat g625 rf605 (fun w => by cases w) t570 (by decide) s613
    have s654 := gSg.rawat g625 rf605 (fun w => by cases w) t570 (by decide) s614
    have s655 := gSg.rawat g625 rf605 (fun w => by cases w) t570 (by decide) s615
    have s656 := gSg.rawat g625 rf605 (fun w => by cases w) t570 (by decide) s616
    have s657 := gSg.rawat g625 rf605 (fun w => by cases w) t570 (by decide) s617
    have s658 := gSg.rawat g625 rf605 (fun w => by cases w) t570 (by decide) s618
    have s659 := gSg.rawat g625 rf605 (fun w => by cases w) t570 (by decide) s619
    have s660 := gSg.rawat g625 rf605 (fun w => by cases w) t570 (by decide) s620
    have s661 := gSg.rawat g625 rf605 (fun w => by cases w) t570 (by decide) s621
    have s662 := gSg.rawat g625 rf605 (fun w => by cases w) t570 (by decide) eh601
    have pr663 : gNo [1, 18, 19, 20, 21, 22, 23, 24, 25, 26, 27, 28, 29, 30, 31, 32, 33, 34, 35, 36, 37, 38, 39, 40, 41, 42] ty622 := gNo.gr g625 (by decide +kernel) (gNo.sub (by decide +kernel) pr599)
    have sS664 : gSs rT 1027 ty622 [8999, 10999, 31999] h623 h623 := gSs.rf g625.1
    clear G603 dd607 pr599 rf605 rf606 s608 s609 s610 s611 s612 s613 s614 s615 s616 s617 s618 s619 s620 s621 sS604 t570 t571 t572 t573 t574 t575 t576 t577 t578 t579 t580 t581 t582 t583 t584 uq564
    refine gs_rput rfl (by decide) rfl sS664.1 t632 nx rw628.2.1 rf629 rfl (Or.inr rfl) (fun h665 g666 nh665 mh665 kh665 zh665 eh665 fh665 => ?_)
    have G667 : gSg [1, 2, 3, 4, 5, 6, 7, 8, 9, 10, 11, 12, 13, 14, 15, 16, 17, 18, 19, 20, 21, 22, 23, 24, 25, 26, 27, 28, 29, 30, 31, 32, 33, 34, 35, 36, 37, 38, 39, 40, 41, 42, 200] [x] [8999, 10999, 31999] ty h ty622 h665 := gSg.tr (gSg.ss G627 sS664 (by decide)) g666 (by decide) (by decide) (fun x hx => Or.inr hx)
    have sS668 : gSs rT 1027 ty622 [8999, 10999, 31999] h665 h665 := gSs.rf g666.1
    have rf669 := Nat.lt_of_lt_of_eq rw628.2.1 nh665.symm
    have rf670 := zh665.trans rf630
    have dd671 : ∀ k, ¬ k ∈ ([31, 30, 29, 28, 27, 26, 25, 15, 14, 13, 12, 11, 10, 9, 4, 2] : List Nat) → h665.2.2.2.2 x k = defaultValue (gGG.2.1 12 k) := raw_dp fh665 dd631
    have s672 := (fh665 2 (by decide)).trans s648
    have s673 := (fh665 4 (by decide)).trans s649
    have s674 := (fh665 9 (by decide)).trans s650
    have s675 := (fh665 10 (by decide)).trans s651
    have s676 := (fh665 11 (by decide)).trans s652
    have s677 := (fh665 12 (by decide)).trans s653
    have s678 := (fh665 13 (by decide)).trans s654
    have s679 := (fh665 14 (by decide)).trans s655
    have s680 := (fh665 15 (by decide)).trans s656
    have s681 := (fh665 25 (by decide)).trans s657
    have s682 := (fh665 26 (by decide)).trans s658
    have s683 := (fh665 27 (by decide)).trans s659
    have s684 := (fh665 28 (by decide)).trans s660
    have s685 := (fh665 29 (by decide)).trans s661
    have s686 := (fh665 30 (by decide)).trans s662
    clear G627 dd631 rf629 rf630 rw628 s648 s649 s650 s651 s652 s653 s654 s655 s656 s657 s658 s659 s660 s661 s662 sS664
    refine gz_s 2 (pc' := 134) (L' := [some (.ref x), none, none, none, none]) (S' := [.int (zi 3), .ref x]) rfl ?_
    refine gs_newr 18 rfl (by decide) rfl sS668.1 (Nat.le_of_lt (Nat.lt_of_le_of_lt (gJ.cell sS668.1 t633 rfl).1 (gJ.cell sS668.1 t633 rfl).2.1)) (by omega) (by omega) rfl rfl (by show (3 : Int) ≤ _; omega) (by show _ ≤ (3 : Int); omega) (fun _ _ => gos_i (by decide) (by decide)) (fun ty687 h688 c689 g690 tc689 lc689 nc689 mc689 ec689 dc689 uc689 => ?_)
    have gac689 : h.1 ≤ c689 := by have h8 := G667.2.1; have h9 := sS668.2.1; omega
    have uq691 := uc689 uq626 (Or.inr (gNo.sub (by decide +kernel) pr663))
    have G692 : gSg [1, 2, 3, 4, 5, 6, 7, 8, 9, 10, 11, 12, 13, 14, 15, 16, 17, 18, 19, 20, 21, 22, 23, 24, 25, 26, 27, 28, 29, 30, 31, 32, 33, 34, 35, 36, 37, 38, 39, 40, 41, 42, 200] [x] [8999, 10999, 31999] ty h ty687 h688 := gSg.tr (gSg.ss G667 sS668 (by decide)) g690 (by decide) (by decide) (fun x hx => by cases hx)
    have rw693 := gSg.raw g690 rf669 (fun w => by cases w)
    have rf694 := (rw693.2.2.1.trans kh665)
    have rf695 := (rw693.2.2.2.trans rf670)
    have dd696 := gSg.rawd (ci := 12) (ps := [31, 30, 29, 28, 27, 26, 25, 15, 14, 13, 12, 11, 10, 9, 4, 2]) g690 rf669 (fun w => by cases w) t632 (by decide) dd671
    have t697 : ty687 x = 200 := rw693.1.trans t632
    have t698 : ty687 c3 = 2 := gSg.typ g690 sS668.1 t633 rTk_2
    have t699 : ty687 c23 = 3 := gSg.typ g690 sS668.1 t634 rTk_3
    have t700 : ty687 c46 = 4 := gSg.typ g690 sS668.1 t635 rTk_4
    have t701 : ty687 c72 = 5 := gSg.typ g690 sS668.1 t636 rTk_5
    have t702 : ty687 c101 = 6 := gSg.typ g690 sS668.1 t637 rTk_6
    have t703 : ty687 c133 = 7 := gSg.typ g690 sS668.1 t638 rTk_7
    have t704 : ty687 c171 = 8 := gSg.typ g690 sS668.1 t639 rTk_8
    have t705 : ty687 c209 = 9 := gSg.typ g690 sS668.1 t640 rTk_9
    have t706 : ty687 c250 = 10 := gSg.typ g690 sS668.1 t641 rTk_10
    have t707 : ty687 c294 = 11 := gSg.typ g690 sS668.1 t642 rTk_11
    have t708 : ty687 c341 = 12 := gSg.typ g690 sS668.1 t643 rTk_12
    have t709 : ty687 c391 = 13 := gSg.typ g690 sS668.1 t644 rTk_13
    have t710 : ty687 c447 = 14 := gSg.typ g690 sS668.1 t645 rTk_14
    have t711 : ty687 c503 = 15 := gSg.typ g690 sS668.1 t646 rTk_15
    have t712 : ty687 c562 = 16 := gSg.typ g690 sS668.1 t647 rTk_16
    have t713 : ty687 c624 = 17 := gSg.typ g690 sS668.1 tc624 rTk_17
    have s714 := gSg.rawat g690 rf669 (fun w => by cases w) t632 (by decide) s672
    have s715 := gSg.rawat g690 rf669 (fun w => by cases w) t632 (by decide) s673
    have s716 := gSg.rawat g690 rf669 (fun w => by cases w) t632 (by decide) s674
    have s717 := gSg.rawat g690 rf669 (fun w => by cases w) t632 (by decide) s675
    have s718 := gSg.rawat g690 rf669 (fun w => by cases w) t632 (by decide) s676
    have s719 := gSg.rawat g690 rf669 (fun w => by cases w) t632 (by decide) s677
    have s720 := gSg.rawat g690 rf669 (fun w => by cases w) t632 (by decide) s678
    have s721 := gSg.rawat g690 rf669 (fun w => by cases w) t632 (by decide) s679
    have s722 := gSg.rawat g690 rf669 (fun w => by cases w) t632 (by decide) s680
    have s723 := gSg.rawat g690 rf669 (fun w => by cases w) t632 (by decide) s681
    have s724 := gSg.rawat g690 rf669 (fun w => by cases w) t632 (by decide) s682
    have s725 := gSg.rawat g690 rf669 (fun w => by cases w) t632 (by decide) s683
    have s726 := gSg.rawat g690 rf669 (fun w => by cases w) t632 (by decide) s684
    have s727 := gSg.rawat g690 rf669 (fun w => by cases w) t632 (by decide) s685
    have s728 := gSg.rawat g690 rf669 (fun w => by cases w) t632 (by decide) s686
    have s729 := gSg.rawat g690 rf669 (fun w => by cases w) t632 (by decide) eh665
    have pr730 : gNo [1, 19, 20, 21, 22, 23, 24, 25, 26, 27, 28, 29, 30, 31, 32, 33, 34, 35, 36, 37, 38, 39, 40, 41, 42] ty687 := gNo.gr g690 (by decide +kernel) (gNo.sub (by decide +kernel) pr663)
    have sS731 : gSs rT 1027 ty687 [8999, 10999, 31999] h688 h688 := gSs.rf g690.1
    clear G667 dd671 pr663 rf669 rf670 s672 s673 s674 s675 s676 s677 s678 s679 s680 s681 s682 s683 s684 s685 s686 sS668 t632 t633 t634 t635 t636 t637 t638 t639 t640 t641 t642 t643 t644 t645 t646 t647 uq626
    refine gs_rput rfl (by decide) rfl sS731.1 t697 nx rw693.2.1 rf694 rfl (Or.inr rfl) (fun h732 g733 nh732 mh732 kh732 zh732 eh732 fh732 => ?_)
    have G734 : gSg [1, 2, 3, 4, 5, 6, 7, 8, 9, 10, 11, 12, 13, 14, 15, 16, 17, 18, 19, 20, 21, 22, 23, 24, 25, 26, 27, 28, 29, 30, 31, 32, 33, 34, 35, 36, 37, 38, 39, 40, 41, 42, 200] [x] [8999, 10999, 31999] ty h ty687 h732 := gSg.tr (gSg.ss G692 sS731 (by decide)) g733 (by decide) (by decide) (fun x hx => Or.inr hx)
    have sS735 : gSs rT 1027 ty687 [8999, 10999, 31999] h732 h732 := gSs.rf g733.1
    have rf736 := Nat.lt_of_lt_of_eq rw693.2.1 nh732.symm
    have rf737 := zh732.trans rf695
    have dd738 : ∀ k, ¬ k ∈ ([32, 31, 30, 29, 28, 27, 26, 25, 15, 14, 13, 12, 11, 10, 9, 4, 2] : List Nat) → h732.2.2.2.2 x k = defaultValue (gGG.2.1 12 k) := raw_dp fh732 dd696
    have s739 := (fh732 2 (by decide)).trans s714
    have s740 := (fh732 4 (by decide)).trans s715
    have s741 := (fh732 9 (by decide)).trans s716
    have s742 := (fh732 10 (by decide)).trans s717
    have s743 := (fh732 11 (by decide)).trans s718
    have s744 := (fh732 12 (by decide)).trans s719
    have s745 := (fh732 13 (by decide)).trans s720
    have s746 := (fh732 14 (by decide)).trans s721
    have s747 := (fh732 15 (by decide)).trans s722
    have s748 := (fh732 25 (by decide)).trans s723
    have s749 := (fh732 26 (by decide)).trans s724
    have s750 := (fh732 27 (by decide)).trans s725
    have s751 := (fh732 28 (by decide)).trans s726
    have s752 := (fh732 29 (by decide)).trans s727
    have s753 := (fh732 30 (by decide)).trans s728
    have s754 := (fh732 31 (by decide)).trans s729
    clear G692 dd696 rf694 rf695 rw693 s714 s715 s716 s717 s718 s719 s720 s721 s722 s723 s724 s725 s726 s727 s728 s729 sS731
    have lp755 := cmlp755 d hJ x nx c3 c23 c46 c72 c101 c133 c171 c209 c250 c294 c341 c391 c447 c503 c562 c624 c689
    have G3756 : gSg [1, 2, 3, 4, 5, 6, 7, 8, 9, 10, 11, 12, 13, 14, 15, 16, 17, 18, 19, 20, 21, 22, 23, 24, 25, 26, 27, 28, 29, 30, 31, 32, 33, 34, 35, 36, 37, 38, 39, 40, 41, 42, 200] [x] [8999, 10999, 31999] ty h ty687 h732 := gSg.ss G734 sS735 (by decide)
    exact gz_wk (lp755 _ ty687 h732  (Nat.lt_succ_self _) G3756 uq691 t697 t698 t699 t700 t701 t702 t703 t704 t705 t706 t707 t708 t709 t710 t711 t712 t713 tc689 (by omega) (by omega) s739 s740 s741 s742 s743 s744 s745 s746 s747 s748 s749 s750 s751 s752 s753 s754 eh732 pr730 rf736 kh732 rf737 dd738) (gLw.s (gLw.n (gLw.n (gLw.n (gLw.n gLw.z)))))
set_option maxRecDepth 20000 in
set_option maxHeartbeats 4000000 in
theorem cmlp166 (d : Nat) {ty : Nat → Nat} {h : gH} (hJ : gJ rT 1027 ty h) (x : Nat) (nx : 1027 ≤ x) (c3 c23 c46 c72 c101 c133 : Nat) : ∀ (fu : Nat) (ty168 : Nat → Nat) (h167 : gH), ((1 : Int)).toNat < fu → gSg [1, 2, 3, 4, 5, 6, 7, 8, 9, 10, 11, 12, 13, 14, 15, 16, 17, 18, 19, 20, 21, 22, 23, 24, 25, 26, 27, 28, 29, 30, 31, 32, 33, 34, 35, 36, 37, 38, 39, 40, 41, 42, 200] [x] [8999, 10999, 31999] ty h ty168 h167 → gUq ty168 → ty168 x = 200 → ty168 c3 = 2 → ty168 c23 = 3 → ty168 c46 = 4 → ty168 c72 = 5 → ty168 c101 = 6 → ty168 c133 = 7 → ((h167.1 : Int) = h.1 + 6) → ((h167.2.1 : Int) = h.2.1 + 10176) → h167.2.2.2.2 x 2 = .ref c3 → h167.2.2.2.2 x 4 = .ref c23 → h167.2.2.2.2 x 9 = .ref c46 → h167.2.2.2.2 x 10 = .ref c72 → h167.2.2.2.2 x 11 = .ref c101 → h167.2.2.2.2 x 12 = .ref c133 → gNo [1, 8, 9, 10, 11, 12, 13, 14, 15, 16, 17, 18, 19, 20, 21, 22, 23, 24, 25, 26, 27, 28, 29, 30, 31, 32, 33, 34, 35, 36, 37, 38, 39, 40, 41, 42] ty168 → x < h167.1 → h167.2.2.1 x = some (.inr 12) → h167.2.2.2.1 x = 0 → (∀ k, ¬ k ∈ ([12, 11, 10, 9, 4, 2] : List Nat) → h167.2.2.2.2 x k = defaultValue (gGG.2.1 12 k)) → gz gPP gGG gcn (d + 1) gt130 57 [some (.ref x), none, none, none, none] [] h167 (fun q _ => ∃ ty9 : Nat → Nat, gSg [1, 2, 3, 4, 5, 6, 7, 8, 9, 10, 11, 12, 13, 14, 15, 16, 17, 18, 19, 20, 21, 22, 23, 24, 25, 26, 27, 28, 29, 30, 31, 32, 33, 34, 35, 36, 37, 38, 39, 40, 41, 42, 200] [x] [8999, 10999, 31999] ty h ty9 q.2.2 ∧ ∃ ip n1 cw ch iv1 wr1 : Int, ty9 x = 1 ∧ gfin gt130 q.1 q.2.1 = some none ∧ q.2.2.2.2.2.2 x 16 = .int (zi ip) ∧ 0 ≤ ip ∧ ip ≤ 1 ∧ q.2.2.2.2.2.2 x 53 = .int (zi n1) ∧ 0 ≤ n1 ∧ n1 ≤ 10 ∧ q.2.2.2.2.2.2 x 50 = .int (zi cw) ∧ 0 ≤ cw ∧ cw ≤ 32 ∧ q.2.2.2.2.2.2 x 51 = .int (zi ch) ∧ 0 ≤ ch ∧ ch ≤ 32 ∧ q.2.2.2.2.2.2 x 52 = .int (zi iv1) ∧ 0 ≤ iv1 ∧ iv1 ≤ 100 ∧ q.2.2.2.2.2.2 x 59 = .int (zi wr1) ∧ 0 ≤ wr1 ∧ wr1 ≤ 60000 ∧ (ip = 0) ∧ (n1 = 0) ∧ (cw = 0) ∧ (ch = 0) ∧ (iv1 = 0) ∧ (wr1 = 0) ∧ ((q.2.2.1 : Int) = h.1 + 41) ∧ ((q.2.2.2.1 : Int) = h.2.1 + 88652) ∧ (gTs ty9 0 q.2.2) ∧ (gMw ty9 (((fun _ => 16, fun _ => 0, fun _ => 0, fun _ => 0, fun _ => 0, fun _ => 0, fun _ => -1), (0, 0, 0, fun _ => 0)) : gSS) q.2.2) ∧ (gRn 64 ty9 10 (fun i9 => eZz ((i9 : Nat) : Int)) q.2.2) ∧ gUq ty9) := by
  intro fu
  induction fu with
  | zero => intro ty168 h167  hm; exact absurd hm (Nat.not_lt_zero _)
  | succ fu ihlp166 =>
    intro ty168 h167  lp166m lp166G lp166u lp166c0 lp166c1 lp166c2 lp166c3 lp166c4 lp166c5 lp166c6 lp166f0 lp166f1 lp166k0 lp166k1 lp166k2 lp166k3 lp166k4 lp166k5 lp166k6 lp166w0 lp166w1 lp166w2 lp166w3
    have sh167 : gSs rT 1027 ty168 [8999, 10999, 31999] h167 h167 := gSs.rf lp166G.1
    refine gz_s 2 (pc' := 61) (L' := [some (.ref x), none, none, none, none]) (S' := [.int (zi 256), .ref x]) rfl ?_
    refine gs_newr 8 rfl (by decide) rfl sh167.1 (Nat.le_of_lt (Nat.lt_of_le_of_lt (gJ.cell sh167.1 lp166c1 rfl).1 (gJ.cell sh167.1 lp166c1 rfl).2.1)) (by omega) (by omega) rfl rfl (by show (256 : Int) ≤ _; omega) (by show _ ≤ (256 : Int); omega) (fun _ _ => gos_i (by decide) (by decide)) (fun ty169 h170 c171 g172 tc171 lc171 nc171 mc171 ec171 dc171 uc171 => ?_)
    have gac171 : h.1 ≤ c171 := by have h8 := lp166G.2.1; have h9 := sh167.2.1; omega
    have uq173 := uc171 lp166u (Or.inr (gNo.sub (by decide +kernel) lp166k6))
    have G174 : gSg [1, 2, 3, 4, 5, 6, 7, 8, 9, 10, 11, 12, 13, 14, 15, 16, 17, 18, 19, 20, 21, 22, 23, 24, 25, 26, 27, 28, 29, 30, 31, 32, 33, 34, 35, 36, 37, 38, 39, 40, 41, 42, 200] [x] [8999, 10999, 31999] ty h ty169 h170 := gSg.tr (gSg.ss lp166G sh167 (by decide)) g172 (by decide) (by decide) (fun x hx => by cases hx)
    have rw175 := gSg.raw g172 lp166w0 (fun w => by cases w)
    have rf176 := (rw175.2.2.1.trans lp166w1)
    have rf177 := (rw175.2.2.2.trans lp166w2)
    have dd178 := gSg.rawd (ci := 12) (ps := [12, 11, 10, 9, 4, 2]) g172 lp166w0 (fun w => by cases w) lp166c0 (by decide) lp166w3
    have t179 : ty169 x = 200 := rw175.1.trans lp166c0
    have t180 : ty169 c3 = 2 := gSg.typ g172 sh167.1 lp166c1 rTk_2
    have t181 : ty169 c23 = 3 := gSg.typ g172 sh167.1 lp166c2 rTk_3
    have t182 : ty169 c46 = 4 := gSg.typ g172 sh167.1 lp166c3 rTk_4
    have t183 : ty169 c72 = 5 := gSg.typ g172 sh167.1 lp166c4 rTk_5
    have t184 : ty169 c101 = 6 := gSg.typ g172 sh167.1 lp166c5 rTk_6
    have t185 : ty169 c133 = 7 := gSg.typ g172 sh167.1 lp166c6 rTk_7
    have s186 := gSg.rawat g172 lp166w0 (fun w => by cases w) lp166c0 (by decide) lp166k0
    have s187 := gSg.rawat g172 lp166w0 (fun w => by cases w) lp166c0 (by decide) lp166k1
    have s188 := gSg.rawat g172 lp166w0 (fun w => by cases w) lp166c0 (by decide) lp166k2
    have s189 := gSg.rawat g172 lp166w0 (fun w => by cases w) lp166c0 (by decide) lp166k3
    have s190 := gSg.rawat g172 lp166w0 (fun w => by cases w) lp166c0 (by decide) lp166k4
    have s191 := gSg.rawat g172 lp166w0 (fun w => by cases w) lp166c0 (by decide) lp166k5
    have pr192 : gNo [1, 9, 10, 11, 12, 13, 14, 15, 16, 17, 18, 19, 20, 21, 22, 23, 24, 25, 26, 27, 28, 29, 30, 31, 32, 33, 34, 35, 36, 37, 38, 39, 40, 41, 42] ty169 := gNo.gr g172 (by decide +kernel) (gNo.sub (by decide +kernel) lp166k6)
    have sS193 : gSs rT 1027 ty169 [8999, 10999, 31999] h170 h170 := gSs.rf g172.1
    refine gs_rput rfl (by decide) rfl sS193.1 t179 nx rw175.2.1 rf176 rfl (Or.inr rfl) (fun h194 g195 nh194 mh194 kh194 zh194 eh194 fh194 => ?_)
    have G196 : gSg [1, 2, 3, 4, 5, 6, 7, 8, 9, 10, 11, 12, 13, 14, 15, 16, 17, 18, 19, 20, 21, 22, 23, 24, 25, 26, 27, 28, 29, 30, 31, 32, 33, 34, 35, 36, 37, 38, 39, 40, 41, 42, 200] [x] [8999, 10999, 31999] ty h ty169 h194 := gSg.tr (gSg.ss G174 sS193 (by decide)) g195 (by decide) (by decide) (fun x hx => Or.inr hx)
    have sS197 : gSs rT 1027 ty169 [8999, 10999, 31999] h194 h194 := gSs.rf g195.1
    have rf198 := Nat.lt_of_lt_of_eq rw175.2.1 nh194.symm
    have rf199 := zh194.trans rf177
    have dd200 : ∀ k, ¬ k ∈ ([13, 12, 11, 10, 9, 4, 2] : List Nat) → h194.2.2.2.2 x k = defaultValue (gGG.2.1 12 k) := raw_dp fh194 dd178
    have s201 := (fh194 2 (by decide)).trans s186
    have s202 := (fh194 4 (by decide)).trans s187
    have s203 := (fh194 9 (by decide)).trans s188
    have s204 := (fh194 10 (by decide)).trans s189
    have s205 := (fh194 11 (by decide)).trans s190
    have s206 := (fh194 12 (by decide)).trans s191
    clear G174 dd178 rf176 rf177 rw175 s186 s187 s188 s189 s190 s191 sS193
    refine gz_s 2 (pc' := 70) (L' := [some (.ref x), none, none, none, none]) (S' := [.int (zi 256), .ref x]) rfl ?_
    refine gs_newr 9 rfl (by decide) rfl sS197.1 (Nat.le_of_lt (Nat.lt_of_le_of_lt (gJ.cell sS197.1 t180 rfl).1 (gJ.cell sS197.1 t180 rfl).2.1)) (by omega) (by omega) rfl rfl (by show (256 : Int) ≤ _; omega) (by show _ ≤ (256 : Int); omega) (fun _ _ => gos_i (by decide) (by decide)) (fun ty207 h208 c209 g210 tc209 lc209 nc209 mc209 ec209 dc209 uc209 => ?_)
    have gac209 : h.1 ≤ c209 := by have h8 := G196.2.1; have h9 := sS197.2.1; omega
    have uq211 := uc209 uq173 (Or.inr (gNo.sub (by decide +kernel) pr192))
    have G212 : gSg [1, 2, 3, 4, 5, 6, 7, 8, 9, 10, 11, 12, 13, 14, 15, 16, 17, 18, 19, 20, 21, 22, 23, 24, 25, 26, 27, 28, 29, 30, 31, 32, 33, 34, 35, 36, 37, 38, 39, 40, 41, 42, 200] [x] [8999, 10999, 31999] ty h ty207 h208 := gSg.tr (gSg.ss G196 sS197 (by decide)) g210 (by decide) (by decide) (fun x hx => by cases hx)
    have rw213 := gSg.raw g210 rf198 (fun w => by cases w)
    have rf214 := (rw213.2.2.1.trans kh194)
    have rf215 := (rw213.2.2.2.trans rf199)
    have dd216 := gSg.rawd (ci := 12) (ps := [13, 12, 11, 10, 9, 4, 2]) g210 rf198 (fun w => by cases w) t179 (by decide) dd200
    have t217 : ty207 x = 200 := rw213.1.trans t179
    have t218 : ty207 c3 = 2 := gSg.typ g210 sS197.1 t180 rTk_2
    have t219 : ty207 c23 = 3 := gSg.typ g210 sS197.1 t181 rTk_3
    have t220 : ty207 c46 = 4 := gSg.typ g210 sS197.1 t182 rTk_4
    have t221 : ty207 c72 = 5 := gSg.typ g210 sS197.1 t183 rTk_5
    have t222 : ty207 c101 = 6 := gSg.typ g210 sS197.1 t184 rTk_6
    have t223 : ty207 c133 = 7 := gSg.typ g210 sS197.1 t185 rTk_7
    have t224 : ty207 c171 = 8 := gSg.typ g210 sS197.1 tc171 rTk_8
    have s225 := gSg.rawat g210 rf198 (fun w => by cases w) t179 (by decide) s201
    have s226 := gSg.rawat g210 rf198 (fun w => by cases w) t179 (by decide) s202
    have s227 := gSg.rawat g210 rf198 (fun w => by cases w) t179 (by decide) s203
    have s228 := gSg.rawat g210 rf198 (fun w => by cases w) t179 (by decide) s204
    have s229 := gSg.rawat g210 rf198 (fun w => by cases w) t179 (by decide) s205
    have s230 := gSg.rawat g210 rf198 (fun w => by cases w) t179 (by decide) s206
    have s231 := gSg.rawat g210 rf198 (fun w => by cases w) t179 (by decide) eh194
    have pr232 : gNo [1, 10, 11, 12, 13, 14, 15, 16, 17, 18, 19, 20, 21, 22, 23, 24, 25, 26, 27, 28, 29, 30, 31, 32, 33, 34, 35, 36, 37, 38, 39, 40, 41, 42] ty207 := gNo.gr g210 (by decide +kernel) (gNo.sub (by decide +kernel) pr192)
    have sS233 : gSs rT 1027 ty207 [8999, 10999, 31999] h208 h208 := gSs.rf g210.1
    clear G196 dd200 pr192 rf198 rf199 s201 s202 s203 s204 s205 s206 sS197 t179 t180 t181 t182 t183 t184 t185 uq173
    refine gs_rput rfl (by decide) rfl sS233.1 t217 nx rw213.2.1 rf214 rfl (Or.inr rfl) (fun h234 g235 nh234 mh234 kh234 zh234 eh234 fh234 => ?_)
    have G236 : gSg [1, 2, 3, 4, 5, 6, 7, 8, 9, 10, 11, 12, 13, 14, 15, 16, 17, 18, 19, 20, 21, 22, 23, 24, 25, 26, 27, 28, 29, 30, 31, 32, 33, 34, 35, 36, 37, 38, 39, 40, 41, 42, 200] [x] [8999, 10999, 31999] ty h ty207 h234 := gSg.tr (gSg.ss G212 sS233 (by decide)) g235 (by decide) (by decide) (fun x hx => Or.inr hx)
    have sS237 : gSs rT 1027 ty207 [8999, 10999, 31999] h234 h234 := gSs.rf g235.1
    have rf238 := Nat.lt_of_lt_of_eq rw213.2.1 nh234.symm
    have rf239 := zh234.trans rf215
    have dd240 : ∀ k, ¬ k ∈ ([14, 13, 12, 11, 10, 9, 4, 2] : List Nat) → h234.2.2.2.2 x k = defaultValue (gGG.2.1 12 k) := raw_dp fh234 dd216
    have s241 := (fh234 2 (by decide)).trans s225
    have s242 := (fh234 4 (by decide)).trans s226
    have s243 := (fh234 9 (by decide)).trans s227
    have s244 := (fh234 10 (by decide)).trans s228
    have s245 := (fh234 11 (by decide)).trans s229
    have s246 := (fh234 12 (by decide)).trans s230
    have s247 := (fh234 13 (by decide)).trans s231
    clear G212 dd216 rf214 rf215 rw213 s225 s226 s227 s228 s229 s230 s231 sS233
    refine gz_s 2 (pc' := 78) (L' := [some (.ref x), none, none, none, none]) (S' := [.int (zi 64), .ref x]) rfl ?_
    refine gs_newr 10 rfl (by decide) rfl sS237.1 (Nat.le_of_lt (Nat.lt_of_le_of_lt (gJ.cell sS237.1 t218 rfl).1 (gJ.cell sS237.1 t218 rfl).2.1)) (by omega) (by omega) rfl rfl (by show (64 : Int) ≤ _; omega) (by show _ ≤ (64 : Int); omega) (fun _ _ => gos_i (by decide) (by decide)) (fun ty248 h249 c250 g251 tc250 lc250 nc250 mc250 ec250 dc250 uc250 => ?_)
    have gac250 : h.1 ≤ c250 := by have h8 := G236.2.1; have h9 := sS237.2.1; omega
    have uq252 := uc250 uq211 (Or.inr (gNo.sub (by decide +kernel) pr232))
    have G253 : gSg [1, 2, 3, 4, 5, 6, 7, 8, 9, 10, 11, 12, 13, 14, 15, 16, 17, 18, 19, 20, 21, 22, 23, 24, 25, 26, 27, 28, 29, 30, 31, 32, 33, 34, 35, 36, 37, 38, 39, 40, 41, 42, 200] [x] [8999, 10999, 31999] ty h ty248 h249 := gSg.tr (gSg.ss G236 sS237 (by decide)) g251 (by decide) (by decide) (fun x hx => by cases hx)
    have rw254 := gSg.raw g251 rf238 (fun w => by cases w)
    have rf255 := (rw254.2.2.1.trans kh234)
    have rf256 := (rw254.2.2.2.trans rf239)
    have dd257 := gSg.rawd (ci := 12) (ps := [14, 13, 12, 11, 10, 9, 4, 2]) g251 rf238 (fun w => by cases w) t217 (by decide) dd240
    have t258 : ty248 x = 200 := rw254.1.trans t217
    have t259 : ty248 c3 = 2 := gSg.typ g251 sS237.1 t218 rTk_2
    have t260 : ty248 c23 = 3 := gSg.typ g251 sS237.1 t219 rTk_3
    have t261 : ty248 c46 = 4 := gSg.typ g251 sS237.1 t220 rTk_4
    have t262 : ty248 c72 = 5 := gSg.typ g251 sS237.1 t221 rTk_5
    have t263 : ty248 c101 = 6 := gSg.typ g251 sS237.1 t222 rTk_6
    have t264 : ty248 c133 = 7 := gSg.typ g251 sS237.1 t223 rTk_7
    have t265 : ty248 c171 = 8 := gSg.typ g251 sS237.1 t224 rTk_8
    have t266 : ty248 c209 = 9 := gSg.typ g251 sS237.1 tc209 rTk_9
    have s267 := gSg.rawat g251 rf238 (fun w => by cases w) t217 (by decide) s241
    have s268 := gSg.rawat g251 rf238 (fun w => by cases w) t217 (by decide) s242
    have s269 := gSg.rawat g251 rf238 (fun w => by cases w) t217 (by decide) s243
    have s270 := gSg.rawat g251 rf238 (fun w => by cases w) t217 (by decide) s244
    have s271 := gSg.rawat g251 rf238 (fun w => by cases w) t217 (by decide) s245
    have s272 := gSg.rawat g251 rf238 (fun w => by cases w) t217 (by decide) s246
    have s273 := gSg.rawat g251 rf238 (fun w => by cases w) t217 (by decide) s247
    have s274 := gSg.rawat g251 rf238 (fun w => by cases w) t217 (by decide) eh234
    have pr275 : gNo [1, 11, 12, 13, 14, 15, 16, 17, 18, 19, 20, 21, 22, 23, 24, 25, 26, 27, 28, 29, 30, 31, 32, 33, 34, 35, 36, 37, 38, 39, 40, 41, 42] ty248 := gNo.gr g251 (by decide +kernel) (gNo.sub (by decide +kernel) pr232)
    have sS276 : gSs rT 1027 ty248 [8999, 10999, 31999] h249 h249 := gSs.rf g251.1
    clear G236 dd240 pr232 rf238 rf239 s241 s242 s243 s244 s245 s246 s247 sS237 t217 t218 t219 t220 t221 t222 t223 t224 uq211
    refine gs_rput rfl (by decide) rfl sS276.1 t258 nx rw254.2.1 rf255 rfl (Or.inr rfl) (fun h277 g278 nh277 mh277 kh277 zh277 eh277 fh277 => ?_)
    have G279 : gSg [1, 2, 3, 4, 5, 6, 7, 8, 9, 10, 11, 12, 13, 14, 15, 16, 17, 18, 19, 20, 21, 22, 23, 24, 25, 26, 27, 28, 29, 30, 31, 32, 33, 34, 35, 36, 37, 38, 39, 40, 41, 42, 200] [x] [8999, 10999, 31999] ty h ty248 h277 := gSg.tr (gSg.ss G253 sS276 (by decide)) g278 (by decide) (by decide) (fun x hx => Or.inr hx)
    have sS280 : gSs rT 1027 ty248 [8999, 10999, 31999] h277 h277 := gSs.rf g278.1
    have rf281 := Nat.lt_of_lt_of_eq rw254.2.1 nh277.symm
    have rf282 := zh277.trans rf256
    have dd283 : ∀ k, ¬ k ∈ ([15, 14, 13, 12, 11, 10, 9, 4, 2] : List Nat) → h277.2.2.2.2 x k = defaultValue (gGG.2.1 12 k) := raw_dp fh277 dd257
    have s284 := (fh277 2 (by decide)).trans s267
    have s285 := (fh277 4 (by decide)).trans s268
    have s286 := (fh277 9 (by decide)).trans s269
    have s287 := (fh277 10 (by decide)).trans s270
    have s288 := (fh277 11 (by decide)).trans s271
    have s289 := (fh277 12 (by decide)).trans s272
    have s290 := (fh277 13 (by decide)).trans s273
    have s291 := (fh277 14 (by decide)).trans s274
    clear G253 dd257 rf255 rf256 rw254 s267 s268 s269 s270 s271 s272 s273 s274 sS276
    refine gz_s 2 (pc' := 85) (L' := [some (.ref x), none, none, none, none]) (S' := [.int (zi 3), .ref x]) rfl ?_
    refine gs_newr 11 rfl (by decide) rfl sS280.1 (Nat.le_of_lt (Nat.lt_of_le_of_lt (gJ.cell sS280.1 t259 rfl).1 (gJ.cell sS280.1 t259 rfl).2.1)) (by omega) (by omega) rfl rfl (by show (3 : Int) ≤ _; omega) (by show _ ≤ (3 : Int); omega) (fun _ _ => gos_i (by decide) (by decide)) (fun ty292 h293 c294 g295 tc294 lc294 nc294 mc294 ec294 dc294 uc294 => ?_)
    have gac294 : h.1 ≤ c294 := by have h8 := G279.2.1; have h9 := sS280.2.1; omega
    have uq296 := uc294 uq252 (Or.inr (gNo.sub (by decide +kernel) pr275))
    have G297 : gSg [1, 2, 3, 4, 5, 6, 7, 8, 9, 10, 11, 12, 13, 14, 15, 16, 17, 18, 19, 20, 21, 22, 23, 24, 25, 26, 27, 28, 29, 30, 31, 32, 33, 34, 35, 36, 37, 38, 39, 40, 41, 42, 200] [x] [8999, 10999, 31999] ty h ty292 h293 := gSg.tr (gSg.ss G279 sS280 (by decide)) g295 (by decide) (by decide) (fun x hx => by cases hx)
    have rw298 := gSg.raw g295 rf281 (fun w => by cases w)
    have rf299 := (rw298.2.2.1.trans kh277)
    have rf300 := (rw298.2.2.2.trans rf282)
    have dd301 := gSg.rawd (ci := 12) (ps := [15, 14, 13, 12, 11, 10, 9, 4, 2]) g295 rf281 (fun w => by cases w) t258 (by decide) dd283
    have t302 : ty292 x = 200 := rw298.1.trans t258
    have t303 : ty292 c3 = 2 := gSg.typ g295 sS280.1 t259 rTk_2
    have t304 : ty292 c23 = 3 := gSg.typ g295 sS280.1 t260 rTk_3
    have t305 : ty292 c46 = 4 := gSg.typ g295 sS280.1 t261 rTk_4
    have t306 : ty292 c72 = 5 := gSg.typ g295 sS280.1 t262 rTk_5
    have t307 : ty292 c101 = 6 := gSg.typ g295 sS280.1 t263 rTk_6
    have t308 : ty292 c133 = 7 := gSg.typ g295 sS280.1 t264 rTk_7
    have t309 : ty292 c171 = 8 := gSg.typ g295 sS280.1 t265 rTk_8
    have t310 : ty292 c209 = 9 := gSg.typ g295 sS280.1 t266 rTk_9
    have t311 : ty292 c250 = 10 := gSg.typ g295 sS280.1 tc250 rTk_10
    have s312 := gSg.rawat g295 rf281 (fun w => by cases w) t258 (by decide) s284
    have s313 := gSg.rawat g295 rf281 (fun w => by cases w) t258 (by decide) s285
    have s314 := gSg.rawat g295 rf281 (fun w => by cases w) t258 (by decide) s286
    have s315 := gSg.rawat g295 rf281 (fun w => by cases w) t258 (by decide) s287
    have s316 := gSg.rawat g295 rf281 (fun w => by cases w) t258 (by decide) s288
    have s317 := gSg.rawat g295 rf281 (fun w => by cases w) t258 (by decide) s289
    have s318 := gSg.rawat g295 rf281 (fun w => by cases w) t258 (by decide) s290
    have s319 := gSg.rawat g295 rf281 (fun w => by cases w) t258 (by decide) s291
    have s320 := gSg.rawat g295 rf281 (fun w => by cases w) t258 (by decide) eh277
    have pr321 : gNo [1, 12, 13, 14, 15, 16, 17, 18, 19, 20, 21, 22, 23, 24, 25, 26, 27, 28, 29, 30, 31, 32, 33, 34, 35, 36, 37, 38, 39, 40, 41, 42] ty292 := gNo.gr g295 (by decide +kernel) (gNo.sub (by decide +kernel) pr275)
    have sS322 : gSs rT 1027 ty292 [8999, 10999, 31999] h293 h293 := gSs.rf g295.1
    clear G279 dd283 pr275 rf281 rf282 s284 s285 s286 s287 s288 s289 s290 s291 sS280 t258 t259 t260 t261 t262 t263 t264 t265 t266 uq252
    refine gs_rput rfl (by decide) rfl sS322.1 t302 nx rw298.2.1 rf299 rfl (Or.inr rfl) (fun h323 g324 nh323 mh323 kh323 zh323 eh323 fh323 => ?_)
    have G325 : gSg [1, 2, 3, 4, 5, 6, 7, 8, 9, 10, 11, 12, 13, 14, 15, 16, 17, 18, 19, 20, 21, 22, 23, 24, 25, 26, 27, 28, 29, 30, 31, 32, 33, 34, 35, 36, 37, 38, 39, 40, 41, 42, 200] [x] [8999, 10999, 31999] ty h ty292 h323 := gSg.tr (gSg.ss G297 sS322 (by decide)) g324 (by decide) (by decide) (fun x hx => Or.inr hx)
    have sS326 : gSs rT 1027 ty292 [8999, 10999, 31999] h323 h323 := gSs.rf g324.1
    have rf327 := Nat.lt_of_lt_of_eq rw298.2.1 nh323.symm
    have rf328 := zh323.trans rf300
    have dd329 : ∀ k, ¬ k ∈ ([25, 15, 14, 13, 12, 11, 10, 9, 4, 2] : List Nat) → h323.2.2.2.2 x k = defaultValue (gGG.2.1 12 k) := raw_dp fh323 dd301
    have s330 := (fh323 2 (by decide)).trans s312
    have s331 := (fh323 4 (by decide)).trans s313
    have s332 := (fh323 9 (by decide)).trans s314
    have s333 := (fh323 10 (by decide)).trans s315
    have s334 := (fh323 11 (by decide)).trans s316
    have s335 := (fh323 12 (by decide)).trans s317
    have s336 := (fh323 13 (by decide)).trans s318
    have s337 := (fh323 14 (by decide)).trans s319
    have s338 := (fh323 15 (by decide)).trans s320
    clear G297 dd301 rf299 rf300 rw298 s312 s313 s314 s315 s316 s317 s318 s319 s320 sS322
    refine gz_s 2 (pc' := 92) (L' := [some (.ref x), none, none, none, none]) (S' := [.int (zi 3), .ref x]) rfl ?_
    refine gs_newr 12 rfl (by decide) rfl sS326.1 (Nat.le_of_lt (Nat.lt_of_le_of_lt (gJ.cell sS326.1 t303 rfl).1 (gJ.cell sS326.1 t303 rfl).2.1)) (by omega) (by omega) rfl rfl (by show (3 : Int) ≤ _; omega) (by show _ ≤ (3 : Int); omega) (fun _ _ => gos_i (by decide) (by decide)) (fun ty339 h340 c341 g342 tc341 lc341 nc341 mc341 ec341 dc341 uc341 => ?_)
    have gac341 : h.1 ≤ c341 := by have h8 := G325.2.1; have h9 := sS326.2.1; omega
    have uq343 := uc341 uq296 (Or.inr (gNo.sub (by decide +kernel) pr321))
    have G344 : gSg [1, 2, 3, 4, 5, 6, 7, 8, 9, 10, 11, 12, 13, 14, 15, 16, 17, 18, 19, 20, 21, 22, 23, 24, 25, 26, 27, 28, 29, 30, 31, 32, 33, 34, 35, 36, 37, 38, 39, 40, 41, 42, 200] [x] [8999, 10999, 31999] ty h ty339 h340 := gSg.tr (gSg.ss G325 sS326 (by decide)) g342 (by decide) (by decide) (fun x hx => by cases hx)
    have rw345 := gSg.raw g342 rf327 (fun w => by cases w)
    have rf346 := (rw345.2.2.1.trans kh323)
    have rf347 := (rw345.2.2.2.trans rf328)
    have dd348 := gSg.rawd (ci := 12) (ps := [25, 15, 14, 13, 12, 11, 10, 9, 4, 2]) g342 rf327 (fun w => by cases w) t302 (by decide) dd329
    have t349 : ty339 x = 200 := rw345.1.trans t302
    have t350 : ty339 c3 = 2 := gSg.typ g342 sS326.1 t303 rTk_2
    have t351 : ty339 c23 = 3 := gSg.typ g342 sS326.1 t304 rTk_3
    have t352 : ty339 c46 = 4 := gSg.typ g342 sS326.1 t305 rTk_4
    have t353 : ty339 c72 = 5 := gSg.typ g342 sS326.1 t306 rTk_5
    have t354 : ty339 c101 = 6 := gSg.typ g342 sS326.1 t307 rTk_6
    have t355 : ty339 c133 = 7 := gSg.typ g342 sS326.1 t308 rTk_7
    have t356 : ty339 c171 = 8 := gSg.typ g342 sS326.1 t309 rTk_8
    have t357 : ty339 c209 = 9 := gSg.typ g342 sS326.1 t310 rTk_9
    have t358 : ty339 c250 = 10 := gSg.typ g342 sS326.1 t311 rTk_10
    have t359 : ty339 c294 = 11 := gSg.typ g342 sS326.1 tc294 rTk_11
    have s360 := gSg.rawat g342 rf327 (fun w => by cases w) t302 (by decide) s330
    have s361 := gSg.rawat g342 rf327 (fun w => by cases w) t302 (by decide) s331
    have s362 := gSg.rawat g342 rf327 (fun w => by cases w) t302 (by decide) s332
    have s363 := gSg.rawat g342 rf327 (fun w => by cases w) t302 (by decide) s333
    have s364 := gSg.rawat g342 rf327 (fun w => by cases w) t302 (by decide) s334
    have s365 := gSg.rawat g342 rf327 (fun w => by cases w) t302 (by decide) s335
    have s366 := gSg.rawat g342 rf327 (fun w => by cases w) t302 (by decide) s336
    have s367 := gSg.rawat g342 rf327 (fun w => by cases w) t302 (by decide) s337
    have s368 := gSg.rawat g342 rf327 (fun w => by cases w) t302 (by decide) s338
    have s369 := gSg.rawat g342 rf327 (fun w => by cases w) t302 (by decide) eh323
    have pr370 : gNo [1, 13, 14, 15, 16, 17, 18, 19, 20, 21, 22, 23, 24, 25, 26, 27, 28, 29, 30, 31, 32, 33, 34, 35, 36, 37, 38, 39, 40, 41, 42] ty339 := gNo.gr g342 (by decide +kernel) (gNo.sub (by decide +kernel) pr321)
    have sS371 : gSs rT 1027 ty339 [8999, 10999, 31999] h340 h340 := gSs.rf g342.1
    clear G325 dd329 pr321 rf327 rf328 s330 s331 s332 s333 s334 s335 s336 s337 s338 sS326 t302 t303 t304 t305 t306 t307 t308 t309 t310 t311 uq296
    refine gs_rput rfl (by decide) rfl sS371.1 t349 nx rw345.2.1 rf346 rfl (Or.inr rfl) (fun h372 g373 nh372 mh372 kh372 zh372 eh372 fh372 => ?_)
    have G374 : gSg [1, 2, 3, 4, 5, 6, 7, 8, 9, 10, 11, 12, 13, 14, 15, 16, 17, 18, 19, 20, 21, 22, 23, 24, 25, 26, 27, 28, 29, 30, 31, 32, 33, 34, 35, 36, 37, 38, 39, 40, 41, 42, 200] [x] [8999, 10999, 31999] ty h ty339 h372 := gSg.tr (gSg.ss G344 sS371 (by decide)) g373 (by decide) (by decide) (fun x hx => Or.inr hx)
    have sS375 : gSs rT 1027 ty339 [8999, 10999, 31999] h372 h372 := gSs.rf g373.1
    have rf376 := Nat.lt_of_lt_of_eq rw345.2.1 nh372.symm
    have rf377 := zh372.trans rf347
    have dd378 : ∀ k, ¬ k ∈ ([26, 25, 15, 14, 13, 12, 11, 10, 9, 4, 2] : List Nat) → h372.2.2.2.2 x k = defaultValue (gGG.2.1 12 k) := raw_dp fh372 dd348
    have s379 := (fh372 2 (by decide)).trans s360
    have s380 := (fh372 4 (by decide)).trans s361
    have s381 := (fh372 9 (by decide)).trans s362
    have s382 := (fh372 10 (by decide)).trans s363
    have s383 := (fh372 11 (by decide)).trans s364
    have s384 := (fh372 12 (by decide)).trans s365
    have s385 := (fh372 13 (by decide)).trans s366
    have s386 := (fh372 14 (by decide)).trans s367
    have s387 := (fh372 15 (by decide)).trans s368
    have s388 := (fh372 25 (by decide)).trans s369
    clear G344 dd348 rf346 rf347 rw345 s360 s361 s362 s363 s364 s365 s366 s367 s368 s369 sS371
    refine gz_s 2 (pc' := 99) (L' := [some (.ref x), none, none, none, none]) (S' := [.int (zi 3), .ref x]) rfl ?_
    refine gs_newr 13 rfl (by decide) rfl sS375.1 (Nat.le_of_lt (Nat.lt_of_le_of_lt (gJ.cell sS375.1 t350 rfl).1 (gJ.cell sS375.1 t350 rfl).2.1)) (by omega) (by omega) rfl rfl (by show (3 : Int) ≤ _; omega) (by show _ ≤ (3 : Int); omega) (fun _ _ => gos_i (by decide) (by decide)) (fun ty389 h390 c391 g392 tc391 lc391 nc391 mc391 ec391 dc391 uc391 => ?_)
    have gac391 : h.1 ≤ c391 := by have h8 := G374.2.1; have h9 := sS375.2.1; omega
    have uq393 := uc391 uq343 (Or.inr (gNo.sub (by decide +kernel) pr370))
    have G394 : gSg [1, 2, 3, 4, 5, 6, 7, 8, 9, 10, 11, 12, 13, 14, 15, 16, 17, 18, 19, 20, 21, 22, 23, 24, 25, 26, 27, 28, 29, 30, 31, 32, 33, 34, 35, 36, 37, 38, 39, 40, 41, 42, 200] [x] [8999, 10999, 31999] ty h ty389 h390 := gSg.tr (gSg.ss G374 sS375 (by decide)) g392 (by decide) (by decide) (fun x hx => by cases hx)
    have rw395 := gSg.raw g392 rf376 (fun w => by cases w)
    have rf396 := (rw395.2.2.1.trans kh372)
    have rf397 := (rw395.2.2.2.trans rf377)
    have dd398 := gSg.rawd (ci := 12) (ps := [26, 25, 15, 14, 13, 12, 11, 10, 9, 4, 2]) g392 rf376 (fun w => by cases w) t349 (by decide) dd378
    have t399 : ty389 x = 200 := rw395.1.trans t349
    have t400 : ty389 c3 = 2 := gSg.typ g392 sS375.1 t350 rTk_2
    have t401 : ty389 c23 = 3 := gSg.typ g392 sS375.1 t351 rTk_3
    have t402 : ty389 c46 = 4 := gSg.typ g392 sS375.1 t352 rTk_4
    have t403 : ty389 c72 = 5 := gSg.typ g392 sS375.1 t353 rTk_5
    have t404 : ty389 c101 = 6 := gSg.typ g392 sS375.1 t354 rTk_6
    have t405 : ty389 c133 = 7 := gSg.typ g392 sS375.1 t355 rTk_7
    have t406 : ty389 c171 = 8 := gSg.typ g392 sS375.1 t356 rTk_8
    have t407 : ty389 c209 = 9 := gSg.typ g392 sS375.1 t357 rTk_9
    have t408 : ty389 c250 = 10 := gSg.typ g392 sS375.1 t358 rTk_10
    have t409 : ty389 c294 = 11 := gSg.typ g392 sS375.1 t359 rTk_11
    have t410 : ty389 c341 = 12 := gSg.typ g392 sS375.1 tc341 rTk_12
    have s411 := gSg.rawat g392 rf376 (fun w => by cases w) t349 (by decide) s379
    have s412 := gSg.rawat g392 rf376 (fun w => by cases w) t349 (by decide) s380
    have s413 := gSg.rawat g392 rf376 (fun w => by cases w) t349 (by decide) s381
    have s414 := gSg.rawat g392 rf376 (fun w => by cases w) t349 (by decide) s382
    have s415 := gSg.rawat g392 rf376 (fun w => by cases w) t349 (by decide) s383
    have s416 := gSg.rawat g392 rf376 (fun w => by cases w) t349 (by decide) s384
    have s417 := gSg.rawat g392 rf376 (fun w => by cases w) t349 (by decide) s385
    have s418 := gSg.rawat g392 rf376 (fun w => by cases w) t349 (by decide) s386
    have s419 := gSg.rawat g392 rf376 (fun w => by cases w) t349 (by decide) s387
    have s420 := gSg.rawat g392 rf376 (fun w => by cases w) t349 (by decide) s388
    have s421 := gSg.rawat g392 rf376 (fun w => by cases w) t349 (by decide) eh372
    have pr422 : gNo [1, 14, 15, 16, 17, 18, 19, 20, 21, 22, 23, 24, 25, 26, 27, 28, 29, 30, 31, 32, 33, 34, 35, 36, 37, 38, 39, 40, 41, 42] ty389 := gNo.gr g392 (by decide +kernel) (gNo.sub (by decide +kernel) pr370)
    have sS423 : gSs rT 1027 ty389 [8999, 10999, 31999] h390 h390 := gSs.rf g392.1
    clear G374 dd378 pr370 rf376 rf377 s379 s380 s381 s382 s383 s384 s385 s386 s387 s388 sS375 t349 t350 t351 t352 t353 t354 t355 t356 t357 t358 t359 uq343
    refine gs_rput rfl (by decide) rfl sS423.1 t399 nx rw395.2.1 rf396 rfl (Or.inr rfl) (fun h424 g425 nh424 mh424 kh424 zh424 eh424 fh424 => ?_)
    have G426 : gSg [1, 2, 3, 4, 5, 6, 7, 8, 9, 10, 11, 12, 13, 14, 15, 16, 17, 18, 19, 20, 21, 22, 23, 24, 25, 26, 27, 28, 29, 30, 31, 32, 33, 34, 35, 36, 37, 38, 39, 40, 41, 42, 200] [x] [8999, 10999, 31999] ty h ty389 h424 := gSg.tr (gSg.ss G394 sS423 (by decide)) g425 (by decide) (by decide) (fun x hx => Or.inr hx)
    have sS427 : gSs rT 1027 ty389 [8999, 10999, 31999] h424 h424 := gSs.rf g425.1
    have rf428 := Nat.lt_of_lt_of_eq rw395.2.1 nh424.symm
    have rf429 := zh424.trans rf397
    have dd430 : ∀ k, ¬ k ∈ ([27, 26, 25, 15, 14, 13, 12, 11, 10, 9, 4, 2] : List Nat) → h424.2.2.2.2 x k = defaultValue (gGG.2.1 12 k) := raw_dp fh424 dd398
    have s431 := (fh424 2 (by decide)).trans s411
    have s432 := (fh424 4 (by decide)).trans s412
    have s433 := (fh424 9 (by decide)).trans s413
    have s434 := (fh424 10 (by decide)).trans s414
    have s435 := (fh424 11 (by decide)).trans s415
    have s436 := (fh424 12 (by decide)).trans s416
    have s437 := (fh424 13 (by decide)).trans s417
    have s438 := (fh424 14 (by decide)).trans s418
    have s439 := (fh424 15 (by decide)).trans s419
    have s440 := (fh424 25 (by decide)).trans s420
    have s441 := (fh424 26 (by decide)).trans s421
    clear G394 dd398 rf396 rf397 rw395 s411 s412 s413 s414 s415 s416 s417 s418 s419 s420 s421 sS423
    have lp442 := cmlp442 d hJ x nx c3 c23 c46 c72 c101 c133 c171 c209 c250 c294 c341 c391
    have G3757 : gSg [1, 2, 3, 4, 5, 6, 7, 8, 9, 10, 11, 12, 13, 14, 15, 16, 17, 18, 19, 20, 21, 22, 23, 24, 25, 26, 27, 28, 29, 30, 31, 32, 33, 34, 35, 36, 37, 38, 39, 40, 41, 42, 200] [x] [8999, 10999, 31999] ty h ty389 h424 := gSg.ss G426 sS427 (by decide)
    exact gz_wk (lp442 _ ty389 h424  (Nat.lt_succ_self _) G3757 uq393 t399 t400 t401 t402 t403 t404 t405 t406 t407 t408 t409 t410 tc391 (by omega) (by omega) s431 s432 s433 s434 s435 s436 s437 s438 s439 s440 s441 eh424 pr422 rf428 kh424 rf429 dd430) (gLw.s (gLw.n (gLw.n (gLw.n (gLw.n gLw.z)))))
set_option maxRecDepth 20000 in
set_option maxHeartbeats 4000000 in
theorem ct_Model (d : Nat) {ty : Nat → Nat} {h : gH} (hJ : gJ rT 1027 ty h) (x : Nat) (tx : ty x = 200) (nx : 1027 ≤ x) (lx : x < h.1) (kx : h.2.2.1 x = some (.inr 12)) (zx : h.2.2.2.1 x = 0) (dx : ∀ k, h.2.2.2.2 x k = defaultValue (gGG.2.1 12 k)) (no0 : gNo [1, 2, 3, 4, 5, 6, 7, 8, 9, 10, 11, 12, 13, 14, 15, 16, 17, 18, 19, 20, 21, 22, 23, 24, 25, 26, 27, 28, 29, 30, 31, 32, 33, 34, 35, 36, 37, 38, 39, 40, 41, 42] ty) (uq : gUq ty) : gz gPP gGG gcn (d + 1) gt130 0 (gent [.ref x] 5) [] h (fun q _ => ∃ ty9 : Nat → Nat, gSg [1, 2, 3, 4, 5, 6, 7, 8, 9, 10, 11, 12, 13, 14, 15, 16, 17, 18, 19, 20, 21, 22, 23, 24, 25, 26, 27, 28, 29, 30, 31, 32, 33, 34, 35, 36, 37, 38, 39, 40, 41, 42, 200] [x] [8999, 10999, 31999] ty h ty9 q.2.2 ∧ ∃ ip n1 cw ch iv1 wr1 : Int, ty9 x = 1 ∧ gfin gt130 q.1 q.2.1 = some none ∧ q.2.2.2.2.2.2 x 16 = .int (zi ip) ∧ 0 ≤ ip ∧ ip ≤ 1 ∧ q.2.2.2.2.2.2 x 53 = .int (zi n1) ∧ 0 ≤ n1 ∧ n1 ≤ 10 ∧ q.2.2.2.2.2.2 x 50 = .int (zi cw) ∧ 0 ≤ cw ∧ cw ≤ 32 ∧ q.2.2.2.2.2.2 x 51 = .int (zi ch) ∧ 0 ≤ ch ∧ ch ≤ 32 ∧ q.2.2.2.2.2.2 x 52 = .int (zi iv1) ∧ 0 ≤ iv1 ∧ iv1 ≤ 100 ∧ q.2.2.2.2.2.2 x 59 = .int (zi wr1) ∧ 0 ≤ wr1 ∧ wr1 ≤ 60000 ∧ (ip = 0) ∧ (n1 = 0) ∧ (cw = 0) ∧ (ch = 0) ∧ (iv1 = 0) ∧ (wr1 = 0) ∧ ((q.2.2.1 : Int) = h.1 + 41) ∧ ((q.2.2.2.1 : Int) = h.2.1 + 88652) ∧ (gTs ty9 0 q.2.2) ∧ (gMw ty9 (((fun _ => 16, fun _ => 0, fun _ => 0, fun _ => 0, fun _ => 0, fun _ => 0, fun _ => -1), (0, 0, 0, fun _ => 0)) : gSS) q.2.2) ∧ (gRn 64 ty9 10 (fun i9 => eZz ((i9 : Nat) : Int)) q.2.2) ∧ gUq ty9) := by
  have hS : gSs rT 1027 ty [8999, 10999, 31999] h h := gSs.rf hJ
  have G0 : gSg [1, 2, 3, 4, 5, 6, 7, 8, 9, 10, 11, 12, 13, 14, 15, 16, 17, 18, 19, 20, 21, 22, 23, 24, 25, 26, 27, 28, 29, 30, 31, 32, 33, 34, 35, 36, 37, 38, 39, 40, 41, 42, 200] [x] [8999, 10999, 31999] ty h ty h := gSg.rf hJ (fun x hx => by rw [List.mem_singleton.mp hx, tx]; rfl)
  refine gz_s 1 (pc' := 1) (L' := [some (.ref x), none, none, none, none]) (S' := [.ref x]) rfl ?_
  refine gz_obj rfl (by decide) (by omega) rfl (by decide) ?_
  refine gz_s 2 (pc' := 8) (L' := [some (.ref x), none, none, none, none]) (S' := [.int (zi 2000), .ref x]) rfl ?_
  refine gs_newr 2 rfl (by decide) rfl hS.1 (Nat.le_of_lt (Nat.lt_of_le_of_lt nx lx)) (by omega) (by omega) rfl rfl (by show (2000 : Int) ≤ _; omega) (by show _ ≤ (2000 : Int); omega) (fun _ _ => gos_i (by decide) (by decide)) (fun ty1 h2 c3 g4 tc3 lc3 nc3 mc3 ec3 dc3 uc3 => ?_)
  have gac3 : h.1 ≤ c3 := by have h8 := G0.2.1; have h9 := hS.2.1; omega
  have uq5 := uc3 uq (Or.inr (gNo.sub (by decide +kernel) no0))
  have G6 : gSg [1, 2, 3, 4, 5, 6, 7, 8, 9, 10, 11, 12, 13, 14, 15, 16, 17, 18, 19, 20, 21, 22, 23, 24, 25, 26, 27, 28, 29, 30, 31, 32, 33, 34, 35, 36, 37, 38, 39, 40, 41, 42, 200] [x] [8999, 10999, 31999] ty h ty1 h2 := gSg.tr (gSg.ss G0 hS (by decide)) g4 (by decide) (by decide) (fun x hx => by cases hx)
  have rw7 := gSg.raw g4 lx (fun w => by cases w)
  have rf8 := (rw7.2.2.1.trans kx)
  have rf9 := (rw7.2.2.2.trans zx)
  have dd10 := gSg.rawd (ci := 12) (ps := []) g4 lx (fun w => by cases w) tx (by decide) (fun k _ => dx k)
  have t11 : ty1 x = 200 := rw7.1.trans tx
  have pr12 : gNo [1, 3, 4, 5, 6, 7, 8, 9, 10, 11, 12, 13, 14, 15, 16, 17, 18, 19, 20, 21, 22, 23, 24, 25, 26, 27, 28, 29, 30, 31, 32, 33, 34, 35, 36, 37, 38, 39, 40, 41, 42] ty1 := gNo.gr g4 (by decide +kernel) (gNo.sub (by decide +kernel) no0)
  have sS13 : gSs rT 1027 ty1 [8999, 10999, 31999] h2 h2 := gSs.rf g4.1
  refine gs_rput rfl (by decide) rfl sS13.1 t11 nx rw7.2.1 rf8 rfl (Or.inr rfl) (fun h14 g15 nh14 mh14 kh14 zh14 eh14 fh14 => ?_)
  have G16 : gSg [1, 2, 3, 4, 5, 6, 7, 8, 9, 10, 11, 12, 13, 14, 15, 16, 17, 18, 19, 20, 21, 22, 23, 24, 25, 26, 27, 28, 29, 30, 31, 32, 33, 34, 35, 36, 37, 38, 39, 40, 41, 42, 200] [x] [8999, 10999, 31999] ty h ty1 h14 := gSg.tr (gSg.ss G6 sS13 (by decide)) g15 (by decide) (by decide) (fun x hx => Or.inr hx)
  have sS17 : gSs rT 1027 ty1 [8999, 10999, 31999] h14 h14 := gSs.rf g15.1
  have rf18 := Nat.lt_of_lt_of_eq rw7.2.1 nh14.symm
  have rf19 := zh14.trans rf9
  have dd20 : ∀ k, ¬ k ∈ ([2] : List Nat) → h14.2.2.2.2 x k = defaultValue (gGG.2.1 12 k) := raw_dp fh14 dd10
  clear G6 dd10 rf8 rf9 rw7 sS13
  refine gz_s 2 (pc' := 17) (L' := [some (.ref x), none, none, none, none]) (S' := [.int (zi 2000), .ref x]) rfl ?_
  refine gs_newr 3 rfl (by decide) rfl sS17.1 (Nat.le_of_lt (Nat.lt_of_le_of_lt (gJ.cell sS17.1 tc3 rTk_2).1 (gJ.cell sS17.1 tc3 rTk_2).2.1)) (by omega) (by omega) rfl rfl (by show (2000 : Int) ≤ _; omega) (by show _ ≤ (2000 : Int); omega) (fun _ _ => gos_i (by decide) (by decide)) (fun ty21 h22 c23 g24 tc23 lc23 nc23 mc23 ec23 dc23 uc23 => ?_)
  have gac23 : h.1 ≤ c23 := by have h8 := G16.2.1; have h9 := sS17.2.1; omega
  have uq25 := uc23 uq5 (Or.inr (gNo.sub (by decide +kernel) pr12))
  have G26 : gSg [1, 2, 3, 4, 5, 6, 7, 8, 9, 10, 11, 12, 13, 14, 15, 16, 17, 18, 19, 20, 21, 22, 23, 24, 25, 26, 27, 28, 29, 30, 31, 32, 33, 34, 35, 36, 37, 38, 39, 40, 41, 42, 200] [x] [8999, 10999, 31999] ty h ty21 h22 := gSg.tr (gSg.ss G16 sS17 (by decide)) g24 (by decide) (by decide) (fun x hx => by cases hx)
  have rw27 := gSg.raw g24 rf18 (fun w => by cases w)
  have rf28 := (rw27.2.2.1.trans kh14)
  have rf29 := (rw27.2.2.2.trans rf19)
  have dd30 := gSg.rawd (ci := 12) (ps := [2]) g24 rf18 (fun w => by cases w) t11 (by decide) dd20
  have t31 : ty21 x = 200 := rw27.1.trans t11
  have t32 : ty21 c3 = 2 := gSg.typ g24 sS17.1 tc3 rTk_2
  have s33 := gSg.rawat g24 rf18 (fun w => by cases w) t11 (by decide) eh14
  have pr34 : gNo [1, 4, 5, 6, 7, 8, 9, 10, 11, 12, 13, 14, 15, 16, 17, 18, 19, 20, 21, 22, 23, 24, 25, 26, 27, 28, 29, 30, 31, 32, 33, 34, 35, 36, 37, 38, 39, 40, 41, 42] ty21 := gNo.gr g24 (by decide +kernel) (gNo.sub (by decide +kernel) pr12)
  have sS35 : gSs rT 1027 ty21 [8999, 10999, 31999] h22 h22 := gSs.rf g24.1
  clear G16 dd20 pr12 rf18 rf19 sS17 t11 uq5
  refine gs_rput rfl (by decide) rfl sS35.1 t31 nx rw27.2.1 rf28 rfl (Or.inr rfl) (fun h36 g37 nh36 mh36 kh36 zh36 eh36 fh36 => ?_)
  have G38 : gSg [1, 2, 3, 4, 5, 6, 7, 8, 9, 10, 11, 12, 13, 14, 15, 16, 17, 18, 19, 20, 21, 22, 23, 24, 25, 26, 27, 28, 29, 30, 31, 32, 33, 34, 35, 36, 37, 38, 39, 40, 41, 42, 200] [x] [8999, 10999, 31999] ty h ty21 h36 := gSg.tr (gSg.ss G26 sS35 (by decide)) g37 (by decide) (by decide) (fun x hx => Or.inr hx)
  have sS39 : gSs rT 1027 ty21 [8999, 10999, 31999] h36 h36 := gSs.rf g37.1
  have rf40 := Nat.lt_of_lt_of_eq rw27.2.1 nh36.symm
  have rf41 := zh36.trans rf29
  have dd42 : ∀ k, ¬ k ∈ ([4, 2] : List Nat) → h36.2.2.2.2 x k = defaultValue (gGG.2.1 12 k) := raw_dp fh36 dd30
  have s43 := (fh36 2 (by decide)).trans s33
  clear G26 dd30 rf28 rf29 rw27 s33 sS35
  refine gz_s 2 (pc' := 25) (L' := [some (.ref x), none, none, none, none]) (S' := [.int (zi 8), .ref x]) rfl ?_
  refine gs_newr 4 rfl (by decide) rfl sS39.1 (Nat.le_of_lt (Nat.lt_of_le_of_lt (gJ.cell sS39.1 t32 rfl).1 (gJ.cell sS39.1 t32 rfl).2.1)) (by omega) (by omega) rfl rfl (by show (8 : Int) ≤ _; omega) (by show _ ≤ (8 : Int); omega) (fun _ _ => gos_i (by decide) (by decide)) (fun ty44 h45 c46 g47 tc46 lc46 nc46 mc46 ec46 dc46 uc46 => ?_)
  have gac46 : h.1 ≤ c46 := by have h8 := G38.2.1; have h9 := sS39.2.1; omega
  have uq48 := uc46 uq25 (Or.inr (gNo.sub (by decide +kernel) pr34))
  have G49 : gSg [1, 2, 3, 4, 5, 6, 7, 8, 9, 10, 11, 12, 13, 14, 15, 16, 17, 18, 19, 20, 21, 22, 23, 24, 25, 26, 27, 28, 29, 30, 31, 32, 33, 34, 35, 36, 37, 38, 39, 40, 41, 42, 200] [x] [8999, 10999, 31999] ty h ty44 h45 := gSg.tr (gSg.ss G38 sS39 (by decide)) g47 (by decide) (by decide) (fun x hx => by cases hx)
  have rw50 := gSg.raw g47 rf40 (fun w => by cases w)
  have rf51 := (rw50.2.2.1.trans kh36)
  have rf52 := (rw50.2.2.2.trans rf41)
  have dd53 := gSg.rawd (ci := 12) (ps := [4, 2]) g47 rf40 (fun w => by cases w) t31 (by decide) dd42
  have t54 : ty44 x = 200 := rw50.1.trans t31
  have t55 : ty44 c3 = 2 := gSg.typ g47 sS39.1 t32 rTk_2
  have t56 : ty44 c23 = 3 := gSg.typ g47 sS39.1 tc23 rTk_3
  have s57 := gSg.rawat g47 rf40 (fun w => by cases w) t31 (by decide) s43
  have s58 := gSg.rawat g47 rf40 (fun w => by cases w) t31 (by decide) eh36
  have pr59 : gNo [1, 5, 6, 7, 8, 9, 10, 11, 12, 13, 14, 15, 16, 17, 18, 19, 20, 21, 22, 23, 24, 25, 26, 27, 28, 29, 30, 31, 32, 33, 34, 35, 36, 37, 38, 39, 40, 41, 42] ty44 := gNo.gr g47 (by decide +kernel) (gNo.sub (by decide +kernel) pr34)
  have sS60 : gSs rT 1027 ty44 [8999, 10999, 31999] h45 h45 := gSs.rf g47.1
  clear G38 dd42 pr34 rf40 rf41 s43 sS39 t31 t32 uq25
  refine gs_rput rfl (by decide) rfl sS60.1 t54 nx rw50.2.1 rf51 rfl (Or.inr rfl) (fun h61 g62 nh61 mh61 kh61 zh61 eh61 fh61 => ?_)
  have G63 : gSg [1, 2, 3, 4, 5, 6, 7, 8, 9, 10, 11, 12, 13, 14, 15, 16, 17, 18, 19, 20, 21, 22, 23, 24, 25, 26, 27, 28, 29, 30, 31, 32, 33, 34, 35, 36, 37, 38, 39, 40, 41, 42, 200] [x] [8999, 10999, 31999] ty h ty44 h61 := gSg.tr (gSg.ss G49 sS60 (by decide)) g62 (by decide) (by decide) (fun x hx => Or.inr hx)
  have sS64 : gSs rT 1027 ty44 [8999, 10999, 31999] h61 h61 := gSs.rf g62.1
  have rf65 := Nat.lt_of_lt_of_eq rw50.2.1 nh61.symm
  have rf66 := zh61.trans rf52
  have dd67 : ∀ k, ¬ k ∈ ([9, 4, 2] : List Nat) → h61.2.2.2.2 x k = defaultValue (gGG.2.1 12 k) := raw_dp fh61 dd53
  have s68 := (fh61 2 (by decide)).trans s57
  have s69 := (fh61 4 (by decide)).trans s58
  clear G49 dd53 rf51 rf52 rw50 s57 s58 sS60
  refine gz_s 2 (pc' := 34) (L' := [some (.ref x), none, none, none, none]) (S' := [.int (zi 2056), .ref x]) rfl ?_
  refine gs_newr 5 rfl (by decide) rfl sS64.1 (Nat.le_of_lt (Nat.lt_of_le_of_lt (gJ.cell sS64.1 t55 rfl).1 (gJ.cell sS64.1 t55 rfl).2.1)) (by omega) (by omega) rfl rfl (by show (2056 : Int) ≤ _; omega) (by show _ ≤ (2056 : Int); omega) (fun _ _ => gos_i (by decide) (by decide)) (fun ty70 h71 c72 g73 tc72 lc72 nc72 mc72 ec72 dc72 uc72 => ?_)
  have gac72 : h.1 ≤ c72 := by have h8 := G63.2.1; have h9 := sS64.2.1; omega
  have uq74 := uc72 uq48 (Or.inr (gNo.sub (by decide +kernel) pr59))
  have G75 : gSg [1, 2, 3, 4, 5, 6, 7, 8, 9, 10, 11, 12, 13, 14, 15, 16, 17, 18, 19, 20, 21, 22, 23, 24, 25, 26, 27, 28, 29, 30, 31, 32, 33, 34, 35, 36, 37, 38, 39, 40, 41, 42, 200] [x] [8999, 10999, 31999] ty h ty70 h71 := gSg.tr (gSg.ss G63 sS64 (by decide)) g73 (by decide) (by decide) (fun x hx => by cases hx)
  have rw76 := gSg.raw g73 rf65 (fun w => by cases w)
  have rf77 := (rw76.2.2.1.trans kh61)
  have rf78 := (rw76.2.2.2.trans rf66)
  have dd79 := gSg.rawd (ci := 12) (ps := [9, 4, 2]) g73 rf65 (fun w => by cases w) t54 (by decide) dd67
  have t80 : ty70 x = 200 := rw76.1.trans t54
  have t81 : ty70 c3 = 2 := gSg.typ g73 sS64.1 t55 rTk_2
  have t82 : ty70 c23 = 3 := gSg.typ g73 sS64.1 t56 rTk_3
  have t83 : ty70 c46 = 4 := gSg.typ g73 sS64.1 tc46 rTk_4
  have s84 := gSg.rawat g73 rf65 (fun w => by cases w) t54 (by decide) s68
  have s85 := gSg.rawat g73 rf65 (fun w => by cases w) t54 (by decide) s69
  have s86 := gSg.rawat g73 rf65 (fun w => by cases w) t54 (by decide) eh61
  have pr87 : gNo [1, 6, 7, 8, 9, 10, 11, 12, 13, 14, 15, 16, 17, 18, 19, 20, 21, 22, 23, 24, 25, 26, 27, 28, 29, 30, 31, 32, 33, 34, 35, 36, 37, 38, 39, 40, 41, 42] ty70 := gNo.gr g73 (by decide +kernel) (gNo.sub (by decide +kernel) pr59)
  have sS88 : gSs rT 1027 ty70 [8999, 10999, 31999] h71 h71 := gSs.rf g73.1
  clear G63 dd67 pr59 rf65 rf66 s68 s69 sS64 t54 t55 t56 uq48
  refine gs_rput rfl (by decide) rfl sS88.1 t80 nx rw76.2.1 rf77 rfl (Or.inr rfl) (fun h89 g90 nh89 mh89 kh89 zh89 eh89 fh89 => ?_)
  have G91 : gSg [1, 2, 3, 4, 5, 6, 7, 8, 9, 10, 11, 12, 13, 14, 15, 16, 17, 18, 19, 20, 21, 22, 23, 24, 25, 26, 27, 28, 29, 30, 31, 32, 33, 34, 35, 36, 37, 38, 39, 40, 41, 42, 200] [x] [8999, 10999, 31999] ty h ty70 h89 := gSg.tr (gSg.ss G75 sS88 (by decide)) g90 (by decide) (by decide) (fun x hx => Or.inr hx)
  have sS92 : gSs rT 1027 ty70 [8999, 10999, 31999] h89 h89 := gSs.rf g90.1
  have rf93 := Nat.lt_of_lt_of_eq rw76.2.1 nh89.symm
  have rf94 := zh89.trans rf78
  have dd95 : ∀ k, ¬ k ∈ ([10, 9, 4, 2] : List Nat) → h89.2.2.2.2 x k = defaultValue (gGG.2.1 12 k) := raw_dp fh89 dd79
  have s96 := (fh89 2 (by decide)).trans s84
  have s97 := (fh89 4 (by decide)).trans s85
  have s98 := (fh89 9 (by decide)).trans s86
  clear G75 dd79 rf77 rf78 rw76 s84 s85 s86 sS88
  refine gz_s 2 (pc' := 43) (L' := [some (.ref x), none, none, none, none]) (S' := [.int (zi 2056), .ref x]) rfl ?_
  refine gs_newr 6 rfl (by decide) rfl sS92.1 (Nat.le_of_lt (Nat.lt_of_le_of_lt (gJ.cell sS92.1 t81 rfl).1 (gJ.cell sS92.1 t81 rfl).2.1)) (by omega) (by omega) rfl rfl (by show (2056 : Int) ≤ _; omega) (by show _ ≤ (2056 : Int); omega) (fun _ _ => gos_i (by decide) (by decide)) (fun ty99 h100 c101 g102 tc101 lc101 nc101 mc101 ec101 dc101 uc101 => ?_)
  have gac101 : h.1 ≤ c101 := by have h8 := G91.2.1; have h9 := sS92.2.1; omega
  have uq103 := uc101 uq74 (Or.inr (gNo.sub (by decide +kernel) pr87))
  have G104 : gSg [1, 2, 3, 4, 5, 6, 7, 8, 9, 10, 11, 12, 13, 14, 15, 16, 17, 18, 19, 20, 21, 22, 23, 24, 25, 26, 27, 28, 29, 30, 31, 32, 33, 34, 35, 36, 37, 38, 39, 40, 41, 42, 200] [x] [8999, 10999, 31999] ty h ty99 h100 := gSg.tr (gSg.ss G91 sS92 (by decide)) g102 (by decide) (by decide) (fun x hx => by cases hx)
  have rw105 := gSg.raw g102 rf93 (fun w => by cases w)
  have rf106 := (rw105.2.2.1.trans kh89)
  have rf107 := (rw105.2.2.2.trans rf94)
  have dd108 := gSg.rawd (ci := 12) (ps := [10, 9, 4, 2]) g102 rf93 (fun w => by cases w) t80 (by decide) dd95
  have t109 : ty99 x = 200 := rw105.1.trans t80
  have t110 : ty99 c3 = 2 := gSg.typ g102 sS92.1 t81 rTk_2
  have t111 : ty99 c23 = 3 := gSg.typ g102 sS92.1 t82 rTk_3
  have t112 : ty99 c46 = 4 := gSg.typ g102 sS92.1 t83 rTk_4
  have t113 : ty99 c72 = 5 := gSg.typ g102 sS92.1 tc72 rTk_5
  have s114 := gSg.rawat g102 rf93 (fun w => by cases w) t80 (by decide) s96
  have s115 := gSg.rawat g102 rf93 (fun w => by cases w) t80 (by decide) s97
  have s116 := gSg.rawat g102 rf93 (fun w => by cases w) t80 (by decide) s98
  have s117 := gSg.rawat g102 rf93 (fun w => by cases w) t80 (by decide) eh89
  have pr118 : gNo [1, 7, 8, 9, 10, 11, 12, 13, 14, 15, 16, 17, 18, 19, 20, 21, 22, 23, 24, 25, 26, 27, 28, 29, 30, 31, 32, 33, 34, 35, 36, 37, 38, 39, 40, 41, 42] ty99 := gNo.gr g102 (by decide +kernel) (gNo.sub (by decide +kernel) pr87)
  have sS119 : gSs rT 1027 ty99 [8999, 10999, 31999] h100 h100 := gSs.rf g102.1
  clear G91 dd95 pr87 rf93 rf94 s96 s97 s98 sS92 t80 t81 t82 t83 uq74
  refine gs_rput rfl (by decide) rfl sS119.1 t109 nx rw105.2.1 rf106 rfl (Or.inr rfl) (fun h120 g121 nh120 mh120 kh120 zh120 eh120 fh120 => ?_)
  have G122 : gSg [1, 2, 3, 4, 5, 6, 7, 8, 9, 10, 11, 12, 13, 14, 15, 16, 17, 18, 19, 20, 21, 22, 23, 24, 25, 26, 27, 28, 29, 30, 31, 32, 33, 34, 35, 36, 37, 38, 39, 40, 41, 42, 200] [x] [8999, 10999, 31999] ty h ty99 h120 := gSg.tr (gSg.ss G104 sS119 (by decide)) g121 (by decide) (by decide) (fun x hx => Or.inr hx)
  have sS123 : gSs rT 1027 ty99 [8999, 10999, 31999] h120 h120 := gSs.rf g121.1
  have rf124 := Nat.lt_of_lt_of_eq rw105.2.1 nh120.symm
  have rf125 := zh120.trans rf107
  have dd126 : ∀ k, ¬ k ∈ ([11, 10, 9, 4, 2] : List Nat) → h120.2.2.2.2 x k = defaultValue (gGG.2.1 12 k) := raw_dp fh120 dd108
  have s127 := (fh120 2 (by decide)).trans s114
  have s128 := (fh120 4 (by decide)).trans s115
  have s129 := (fh120 9 (by decide)).trans s116
  have s130 := (fh120 10 (by decide)).trans s117
  clear G104 dd108 rf106 rf107 rw105 s114 s115 s116 s117 sS119
  refine gz_s 2 (pc' := 52) (L' := [some (.ref x), none, none, none, none]) (S' := [.int (zi 2056), .ref x]) rfl ?_
  refine gs_newr 7 rfl (by decide) rfl sS123.1 (Nat.le_of_lt (Nat.lt_of_le_of_lt (gJ.cell sS123.1 t110 rfl).1 (gJ.cell sS123.1 t110 rfl).2.1)) (by omega) (by omega) rfl rfl (by show (2056 : Int) ≤ _; omega) (by show _ ≤ (2056 : Int); omega) (fun _ _ => gos_i (by decide) (by decide)) (fun ty131 h132 c133 g134 tc133 lc133 nc133 mc133 ec133 dc133 uc133 => ?_)
  have gac133 : h.1 ≤ c133 := by have h8 := G122.2.1; have h9 := sS123.2.1; omega
  have uq135 := uc133 uq103 (Or.inr (gNo.sub (by decide +kernel) pr118))
  have G136 : gSg [1, 2, 3, 4, 5, 6, 7, 8, 9, 10, 11, 12, 13, 14, 15, 16, 17, 18, 19, 20, 21, 22, 23, 24, 25, 26, 27, 28, 29, 30, 31, 32, 33, 34, 35, 36, 37, 38, 39, 40, 41, 42, 200] [x] [8999, 10999, 31999] ty h ty131 h132 := gSg.tr (gSg.ss G122 sS123 (by decide)) g134 (by decide) (by decide) (fun x hx => by cases hx)
  have rw137 := gSg.raw g134 rf124 (fun w => by cases w)
  have rf138 := (rw137.2.2.1.trans kh120)
  have rf139 := (rw137.2.2.2.trans rf125)
  have dd140 := gSg.rawd (ci := 12) (ps := [11, 10, 9, 4, 2]) g134 rf124 (fun w => by cases w) t109 (by decide) dd126
  have t141 : ty131 x = 200 := rw137.1.trans t109
  have t142 : ty131 c3 = 2 := gSg.typ g134 sS123.1 t110 rTk_2
  have t143 : ty131 c23 = 3 := gSg.typ g134 sS123.1 t111 rTk_3
  have t144 : ty131 c46 = 4 := gSg.typ g134 sS123.1 t112 rTk_4
  have t145 : ty131 c72 = 5 := gSg.typ g134 sS123.1 t113 rTk_5
  have t146 : ty131 c101 = 6 := gSg.typ g134 sS123.1 tc101 rTk_6
  have s147 := gSg.rawat g134 rf124 (fun w => by cases w) t109 (by decide) s127
  have s148 := gSg.rawat g134 rf124 (fun w => by cases w) t109 (by decide) s128
  have s149 := gSg.rawat g134 rf124 (fun w => by cases w) t109 (by decide) s129
  have s150 := gSg.rawat g134 rf124 (fun w => by cases w) t109 (by decide) s130
  have s151 := gSg.rawat g134 rf124 (fun w => by cases w) t109 (by decide) eh120
  have pr152 : gNo [1, 8, 9, 10, 11, 12, 13, 14, 15, 16, 17, 18, 19, 20, 21, 22, 23, 24, 25, 26, 27, 28, 29, 30, 31, 32, 33, 34, 35, 36, 37, 38, 39, 40, 41, 42] ty131 := gNo.gr g134 (by decide +kernel) (gNo.sub (by decide +kernel) pr118)
  have sS153 : gSs rT 1027 ty131 [8999, 10999, 31999] h132 h132 := gSs.rf g134.1
  clear G122 dd126 pr118 rf124 rf125 s127 s128 s129 s130 sS123 t109 t110 t111 t112 t113 uq103
  refine gs_rput rfl (by decide) rfl sS153.1 t141 nx rw137.2.1 rf138 rfl (Or.inr rfl) (fun h154 g155 nh154 mh154 kh154 zh154 eh154 fh154 => ?_)
  have G156 : gSg [1, 2, 3, 4, 5, 6, 7, 8, 9, 10, 11, 12, 13, 14, 15, 16, 17, 18, 19, 20, 21, 22, 23, 24, 25, 26, 27, 28, 29, 30, 31, 32, 33, 34, 35, 36, 37, 38, 39, 40, 41, 42, 200] [x] [8999, 10999, 31999] ty h ty131 h154 := gSg.tr (gSg.ss G136 sS153 (by decide)) g155 (by decide) (by decide) (fun x hx => Or.inr hx)
  have sS157 : gSs rT 1027 ty131 [8999, 10999, 31999] h154 h154 := gSs.rf g155.1
  have rf158 := Nat.lt_of_lt_of_eq rw137.2.1 nh154.symm
  have rf159 := zh154.trans rf139
  have dd160 : ∀ k, ¬ k ∈ ([12, 11, 10, 9, 4, 2] : List Nat) → h154.2.2.2.2 x k = defaultValue (gGG.2.1 12 k) := raw_dp fh154 dd140
  have s161 := (fh154 2 (by decide)).trans s147
  have s162 := (fh154 4 (by decide)).trans s148
  have s163 := (fh154 9 (by decide)).trans s149
  have s164 := (fh154 10 (by decide)).trans s150
  have s165 := (fh154 11 (by decide)).trans s151
  clear G136 dd140 rf138 rf139 rw137 s147 s148 s149 s150 s151 sS153
  have lp166 := cmlp166 d hJ x nx c3 c23 c46 c72 c101 c133
  have G3758 : gSg [1, 2, 3, 4, 5, 6, 7, 8, 9, 10, 11, 12, 13, 14, 15, 16, 17, 18, 19, 20, 21, 22, 23, 24, 25, 26, 27, 28, 29, 30, 31, 32, 33, 34, 35, 36, 37, 38, 39, 40, 41, 42, 200] [x] [8999, 10999, 31999] ty h ty131 h154 := gSg.ss G156 sS157 (by decide)
  exact gz_wk (lp166 _ ty131 h154  (Nat.lt_succ_self _) G3758 uq135 t141 t142 t143 t144 t145 t146 tc133 (by omega) (by omega) s161 s162 s163 s164 s165 eh154 pr152 rf158 kh154 rf159 dd160) (gLw.s (gLw.n (gLw.n (gLw.n (gLw.n gLw.z)))))
