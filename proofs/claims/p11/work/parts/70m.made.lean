/-! ===== the reference is made (by program) ===== -/
def gzuL : List Int := [0, 1, 0, 0, 1, 2, 3, 2, 1, 0, 0, 1, 2, 3, 4, 5, 4, 3, 2, 1, 0, 0, 1, 2, 3, 4, 5, 6, 7, 6, 5, 4, 3, 2, 1, 0, 1, 2, 3, 4, 5, 6, 7, 7, 6, 5, 4, 3, 2, 3, 4, 5, 6, 7, 7, 6, 5, 4, 5, 6, 7, 7, 6, 7, 7]
def gzvL : List Int := [0, 0, 1, 2, 1, 0, 0, 1, 2, 3, 4, 3, 2, 1, 0, 0, 1, 2, 3, 4, 5, 6, 5, 4, 3, 2, 1, 0, 0, 1, 2, 3, 4, 5, 6, 7, 7, 6, 5, 4, 3, 2, 1, 2, 3, 4, 5, 6, 7, 7, 6, 5, 4, 3, 4, 5, 6, 7, 7, 6, 5, 6, 7, 7, 8]
def gzu (n : Nat) : Int := gzuL.getD n 0
def gzv (n : Nat) : Int := gzvL.getD n 0
theorem gzz0_0 : ∀ n : Fin 64, 0 ≤ gzu n.val := by decide +kernel
theorem gzz0_1 : ∀ n : Fin 64, gzu n.val ≤ 7 := by decide +kernel
theorem gzz0_2 : ∀ n : Fin 64, 0 ≤ gzv n.val := by decide +kernel
theorem gzz0_3 : ∀ n : Fin 64, gzv n.val ≤ 7 := by decide +kernel
theorem gzz0_4 : ∀ n : Fin 64, ((gzu n.val + gzv n.val) % 2 = 0 → gzu n.val = 7 → (gzu (n.val + 1) = gzu n.val ∧ gzv (n.val + 1) = gzv n.val + 1)) := by decide +kernel
theorem gzz0_5 : ∀ n : Fin 64, ((gzu n.val + gzv n.val) % 2 = 0 → ¬ gzu n.val = 7 → gzv n.val = 0 → (gzu (n.val + 1) = gzu n.val + 1 ∧ gzv (n.val + 1) = gzv n.val)) := by decide +kernel
theorem gzz0_6 : ∀ n : Fin 64, ((gzu n.val + gzv n.val) % 2 = 0 → ¬ gzu n.val = 7 → ¬ gzv n.val = 0 → (gzu (n.val + 1) = gzu n.val + 1 ∧ gzv (n.val + 1) = gzv n.val - 1)) := by decide +kernel
theorem gzz0_7 : ∀ n : Fin 64, (¬ (gzu n.val + gzv n.val) % 2 = 0 → gzv n.val = 7 → (gzu (n.val + 1) = gzu n.val + 1 ∧ gzv (n.val + 1) = gzv n.val)) := by decide +kernel
theorem gzz0_8 : ∀ n : Fin 64, (¬ (gzu n.val + gzv n.val) % 2 = 0 → ¬ gzv n.val = 7 → gzu n.val = 0 → (gzu (n.val + 1) = gzu n.val ∧ gzv (n.val + 1) = gzv n.val + 1)) := by decide +kernel
theorem gzz0_9 : ∀ n : Fin 64, (¬ (gzu n.val + gzv n.val) % 2 = 0 → ¬ gzv n.val = 7 → ¬ gzu n.val = 0 → (gzu (n.val + 1) = gzu n.val - 1 ∧ gzv (n.val + 1) = gzv n.val + 1)) := by decide +kernel
theorem gzz0 : ∀ n : Fin 64, 0 ≤ gzu n.val ∧ gzu n.val ≤ 7 ∧ 0 ≤ gzv n.val ∧ gzv n.val ≤ 7 ∧ ((gzu n.val + gzv n.val) % 2 = 0 → gzu n.val = 7 → (gzu (n.val + 1) = gzu n.val ∧ gzv (n.val + 1) = gzv n.val + 1)) ∧ ((gzu n.val + gzv n.val) % 2 = 0 → ¬ gzu n.val = 7 → gzv n.val = 0 → (gzu (n.val + 1) = gzu n.val + 1 ∧ gzv (n.val + 1) = gzv n.val)) ∧ ((gzu n.val + gzv n.val) % 2 = 0 → ¬ gzu n.val = 7 → ¬ gzv n.val = 0 → (gzu (n.val + 1) = gzu n.val + 1 ∧ gzv (n.val + 1) = gzv n.val - 1)) ∧ (¬ (gzu n.val + gzv n.val) % 2 = 0 → gzv n.val = 7 → (gzu (n.val + 1) = gzu n.val + 1 ∧ gzv (n.val + 1) = gzv n.val)) ∧ (¬ (gzu n.val + gzv n.val) % 2 = 0 → ¬ gzv n.val = 7 → gzu n.val = 0 → (gzu (n.val + 1) = gzu n.val ∧ gzv (n.val + 1) = gzv n.val + 1)) ∧ (¬ (gzu n.val + gzv n.val) % 2 = 0 → ¬ gzv n.val = 7 → ¬ gzu n.val = 0 → (gzu (n.val + 1) = gzu n.val - 1 ∧ gzv (n.val + 1) = gzv n.val + 1)) := fun n => ⟨gzz0_0 n, gzz0_1 n, gzz0_2 n, gzz0_3 n, gzz0_4 n, gzz0_5 n, gzz0_6 n, gzz0_7 n, gzz0_8 n, gzz0_9 n⟩
theorem gzz {i u v : Int} (h0 : 0 ≤ i) (h1 : i < 64) (eu : u = gzu i.toNat) (ev : v = gzv i.toNat) : (0 ≤ u ∧ u ≤ 7 ∧ 0 ≤ v ∧ v ≤ 7) ∧ ((u + v) % 2 = 0 → u = 7 → (gzu (i + 1).toNat = u ∧ gzv (i + 1).toNat = v + 1)) ∧ ((u + v) % 2 = 0 → ¬ u = 7 → v = 0 → (gzu (i + 1).toNat = u + 1 ∧ gzv (i + 1).toNat = v)) ∧ ((u + v) % 2 = 0 → ¬ u = 7 → ¬ v = 0 → (gzu (i + 1).toNat = u + 1 ∧ gzv (i + 1).toNat = v - 1)) ∧ (¬ (u + v) % 2 = 0 → v = 7 → (gzu (i + 1).toNat = u + 1 ∧ gzv (i + 1).toNat = v)) ∧ (¬ (u + v) % 2 = 0 → ¬ v = 7 → u = 0 → (gzu (i + 1).toNat = u ∧ gzv (i + 1).toNat = v + 1)) ∧ (¬ (u + v) % 2 = 0 → ¬ v = 7 → ¬ u = 0 → (gzu (i + 1).toNat = u - 1 ∧ gzv (i + 1).toNat = v + 1)) := by
  have h := gzz0 ⟨i.toNat, by omega⟩
  have e : (i + 1).toNat = i.toNat + 1 := by omega
  rw [e, eu, ev]
  obtain ⟨a1, a2, a3, a4, b1, b2, b3, b4, b5, b6⟩ := h
  exact ⟨⟨a1, a2, a3, a4⟩, b1, b2, b3, b4, b5, b6⟩
set_option maxRecDepth 20000 in
set_option maxHeartbeats 4000000 in
theorem ct_Model (d : Nat) {ty : Nat → Nat} {h : gH} (hJ : gJ rT 1027 ty h) (x : Nat) (tx : ty x = 200) (nx : 1027 ≤ x) (lx : x < h.1) (kx : h.2.2.1 x = some (.inr 12)) (zx : h.2.2.2.1 x = 0) (dx : ∀ k, h.2.2.2.2 x k = defaultValue (gGG.2.1 12 k)) (no0 : gNo [1, 2, 3, 4, 5, 6, 7, 8, 9, 10, 11, 12, 13, 14, 15, 16, 17, 18, 19, 20, 21, 22, 23, 24, 25, 26, 27, 28, 29, 30, 31, 32, 33, 34, 35, 36, 37, 38, 39, 40, 41, 42] ty) (uq : gUq ty) : gz gPP gGG gcn (d + 1) gt130 0 (gent [.ref x] 5) [] h (fun q _ => ∃ ty9 : Nat → Nat, gSg [1, 2, 3, 4, 5, 6, 7, 8, 9, 10, 11, 12, 13, 14, 15, 16, 17, 18, 19, 20, 21, 22, 23, 24, 25, 26, 27, 28, 29, 30, 31, 32, 33, 34, 35, 36, 37, 38, 39, 40, 41, 42, 200] [x] [8999, 10999, 31999] ty h ty9 q.2.2 ∧ ∃ ip n1 cw ch iv1 : Int, ty9 x = 1 ∧ gfin gt130 q.1 q.2.1 = some none ∧ q.2.2.2.2.2.2 x 16 = .int (zi ip) ∧ 0 ≤ ip ∧ ip ≤ 1 ∧ q.2.2.2.2.2.2 x 53 = .int (zi n1) ∧ 0 ≤ n1 ∧ n1 ≤ 10 ∧ q.2.2.2.2.2.2 x 50 = .int (zi cw) ∧ 0 ≤ cw ∧ cw ≤ 32 ∧ q.2.2.2.2.2.2 x 51 = .int (zi ch) ∧ 0 ≤ ch ∧ ch ≤ 32 ∧ q.2.2.2.2.2.2 x 52 = .int (zi iv1) ∧ 0 ≤ iv1 ∧ iv1 ≤ 100 ∧ (ip = 0) ∧ (n1 = 0) ∧ (cw = 0) ∧ (ch = 0) ∧ (iv1 = 0) ∧ ((q.2.2.1 : Int) = h.1 + 41) ∧ ((q.2.2.2.1 : Int) = h.2.1 + 88652) ∧ (gTs ty9 0 q.2.2) ∧ gUq ty9) := by
  have hS : gSs rT 1027 ty [8999, 10999, 31999] h h := gSs.rf hJ
  have G0 : gSg [1, 2, 3, 4, 5, 6, 7, 8, 9, 10, 11, 12, 13, 14, 15, 16, 17, 18, 19, 20, 21, 22, 23, 24, 25, 26, 27, 28, 29, 30, 31, 32, 33, 34, 35, 36, 37, 38, 39, 40, 41, 42, 200] [x] [8999, 10999, 31999] ty h ty h := gSg.rf hJ (fun x hx => by rw [List.mem_singleton.mp hx, tx]; rfl)
  refine gz_s 1 (pc' := 1) (L' := [some (.ref x), none, none, none, none]) (S' := [.ref x]) rfl ?_
  refine gz_obj rfl (by decide) (by omega) rfl (by decide) ?_
  refine gz_s 2 (pc' := 8) (L' := [some (.ref x), none, none, none, none]) (S' := [.int (zi 2000), .ref x]) rfl ?_
  refine gs_newr 2 rfl (by decide) rfl hS.1 (Nat.le_of_lt (Nat.lt_of_le_of_lt nx lx)) (by omega) (by omega) rfl rfl (by show (2000 : Int) ≤ _; omega) (by show _ ≤ (2000 : Int); omega) (fun _ _ => gos_i (by decide) (by decide)) (fun ty1 h2 c3 g4 tc3 lc3 nc3 mc3 ec3 dc3 uc3 => ?_)
  have gac3 : h.1 ≤ c3 := by have h8 := G0.2.1; have h9 := hS.2.1; omega
  have uq5 := uc3 uq (Or.inr (gNo.sub (by decide) no0))
  have G6 : gSg [1, 2, 3, 4, 5, 6, 7, 8, 9, 10, 11, 12, 13, 14, 15, 16, 17, 18, 19, 20, 21, 22, 23, 24, 25, 26, 27, 28, 29, 30, 31, 32, 33, 34, 35, 36, 37, 38, 39, 40, 41, 42, 200] [x] [8999, 10999, 31999] ty h ty1 h2 := gSg.tr (gSg.ss G0 hS (by decide)) g4 (by decide) (by decide) (fun x hx => by cases hx)
  have rw7 := gSg.raw g4 lx (fun w => by cases w)
  have rf8 := (rw7.2.2.1.trans kx)
  have rf9 := (rw7.2.2.2.trans zx)
  have dd10 := gSg.rawd (ci := 12) (ps := []) g4 lx (fun w => by cases w) tx (by decide) (fun k _ => dx k)
  have t11 : ty1 x = 200 := rw7.1.trans tx
  have pr12 : gNo [1, 3, 4, 5, 6, 7, 8, 9, 10, 11, 12, 13, 14, 15, 16, 17, 18, 19, 20, 21, 22, 23, 24, 25, 26, 27, 28, 29, 30, 31, 32, 33, 34, 35, 36, 37, 38, 39, 40, 41, 42] ty1 := gNo.gr g4 (by decide) (gNo.sub (by decide) no0)
  have sS13 : gSs rT 1027 ty1 [8999, 10999, 31999] h2 h2 := gSs.rf g4.1
  refine gs_rput rfl (by decide) rfl sS13.1 t11 nx rw7.2.1 rf8 rfl (Or.inr rfl) (fun h14 g15 nh14 mh14 kh14 zh14 eh14 fh14 => ?_)
  have G16 : gSg [1, 2, 3, 4, 5, 6, 7, 8, 9, 10, 11, 12, 13, 14, 15, 16, 17, 18, 19, 20, 21, 22, 23, 24, 25, 26, 27, 28, 29, 30, 31, 32, 33, 34, 35, 36, 37, 38, 39, 40, 41, 42, 200] [x] [8999, 10999, 31999] ty h ty1 h14 := gSg.tr (gSg.ss G6 sS13 (by decide)) g15 (by decide) (by decide) (fun x hx => Or.inr hx)
  have sS17 : gSs rT 1027 ty1 [8999, 10999, 31999] h14 h14 := gSs.rf g15.1
  have rf18 := Nat.lt_of_lt_of_eq rw7.2.1 nh14.symm
  have rf19 := zh14.trans rf9
  have dd20 : ∀ k, ¬ k ∈ ([2] : List Nat) → h14.2.2.2.2 x k = defaultValue (gGG.2.1 12 k) := raw_dp fh14 dd10
  refine gz_s 2 (pc' := 17) (L' := [some (.ref x), none, none, none, none]) (S' := [.int (zi 2000), .ref x]) rfl ?_
  refine gs_newr 3 rfl (by decide) rfl sS17.1 (Nat.le_of_lt (Nat.lt_of_le_of_lt (gJ.cell sS17.1 tc3 rfl).1 (gJ.cell sS17.1 tc3 rfl).2.1)) (by omega) (by omega) rfl rfl (by show (2000 : Int) ≤ _; omega) (by show _ ≤ (2000 : Int); omega) (fun _ _ => gos_i (by decide) (by decide)) (fun ty21 h22 c23 g24 tc23 lc23 nc23 mc23 ec23 dc23 uc23 => ?_)
  have gac23 : h.1 ≤ c23 := by have h8 := G16.2.1; have h9 := sS17.2.1; omega
  have uq25 := uc23 uq5 (Or.inr (gNo.sub (by decide) pr12))
  have G26 : gSg [1, 2, 3, 4, 5, 6, 7, 8, 9, 10, 11, 12, 13, 14, 15, 16, 17, 18, 19, 20, 21, 22, 23, 24, 25, 26, 27, 28, 29, 30, 31, 32, 33, 34, 35, 36, 37, 38, 39, 40, 41, 42, 200] [x] [8999, 10999, 31999] ty h ty21 h22 := gSg.tr (gSg.ss G16 sS17 (by decide)) g24 (by decide) (by decide) (fun x hx => by cases hx)
  have rw27 := gSg.raw g24 rf18 (fun w => by cases w)
  have rf28 := (rw27.2.2.1.trans kh14)
  have rf29 := (rw27.2.2.2.trans rf19)
  have dd30 := gSg.rawd (ci := 12) (ps := [2]) g24 rf18 (fun w => by cases w) t11 (by decide) dd20
  have t31 : ty21 x = 200 := rw27.1.trans t11
  have t32 : ty21 c3 = 2 := gSg.typ g24 sS17.1 tc3 rfl
  have s33 := gSg.rawat g24 rf18 (fun w => by cases w) t11 (by decide) eh14
  have pr34 : gNo [1, 4, 5, 6, 7, 8, 9, 10, 11, 12, 13, 14, 15, 16, 17, 18, 19, 20, 21, 22, 23, 24, 25, 26, 27, 28, 29, 30, 31, 32, 33, 34, 35, 36, 37, 38, 39, 40, 41, 42] ty21 := gNo.gr g24 (by decide) (gNo.sub (by decide) pr12)
  have sS35 : gSs rT 1027 ty21 [8999, 10999, 31999] h22 h22 := gSs.rf g24.1
  refine gs_rput rfl (by decide) rfl sS35.1 t31 nx rw27.2.1 rf28 rfl (Or.inr rfl) (fun h36 g37 nh36 mh36 kh36 zh36 eh36 fh36 => ?_)
  have G38 : gSg [1, 2, 3, 4, 5, 6, 7, 8, 9, 10, 11, 12, 13, 14, 15, 16, 17, 18, 19, 20, 21, 22, 23, 24, 25, 26, 27, 28, 29, 30, 31, 32, 33, 34, 35, 36, 37, 38, 39, 40, 41, 42, 200] [x] [8999, 10999, 31999] ty h ty21 h36 := gSg.tr (gSg.ss G26 sS35 (by decide)) g37 (by decide) (by decide) (fun x hx => Or.inr hx)
  have sS39 : gSs rT 1027 ty21 [8999, 10999, 31999] h36 h36 := gSs.rf g37.1
  have rf40 := Nat.lt_of_lt_of_eq rw27.2.1 nh36.symm
  have rf41 := zh36.trans rf29
  have dd42 : ∀ k, ¬ k ∈ ([4, 2] : List Nat) → h36.2.2.2.2 x k = defaultValue (gGG.2.1 12 k) := raw_dp fh36 dd30
  have s43 := (fh36 2 (by decide)).trans s33
  refine gz_s 2 (pc' := 25) (L' := [some (.ref x), none, none, none, none]) (S' := [.int (zi 8), .ref x]) rfl ?_
  refine gs_newr 4 rfl (by decide) rfl sS39.1 (Nat.le_of_lt (Nat.lt_of_le_of_lt (gJ.cell sS39.1 t32 rfl).1 (gJ.cell sS39.1 t32 rfl).2.1)) (by omega) (by omega) rfl rfl (by show (8 : Int) ≤ _; omega) (by show _ ≤ (8 : Int); omega) (fun _ _ => gos_i (by decide) (by decide)) (fun ty44 h45 c46 g47 tc46 lc46 nc46 mc46 ec46 dc46 uc46 => ?_)
  have gac46 : h.1 ≤ c46 := by have h8 := G38.2.1; have h9 := sS39.2.1; omega
  have uq48 := uc46 uq25 (Or.inr (gNo.sub (by decide) pr34))
  have G49 : gSg [1, 2, 3, 4, 5, 6, 7, 8, 9, 10, 11, 12, 13, 14, 15, 16, 17, 18, 19, 20, 21, 22, 23, 24, 25, 26, 27, 28, 29, 30, 31, 32, 33, 34, 35, 36, 37, 38, 39, 40, 41, 42, 200] [x] [8999, 10999, 31999] ty h ty44 h45 := gSg.tr (gSg.ss G38 sS39 (by decide)) g47 (by decide) (by decide) (fun x hx => by cases hx)
  have rw50 := gSg.raw g47 rf40 (fun w => by cases w)
  have rf51 := (rw50.2.2.1.trans kh36)
  have rf52 := (rw50.2.2.2.trans rf41)
  have dd53 := gSg.rawd (ci := 12) (ps := [4, 2]) g47 rf40 (fun w => by cases w) t31 (by decide) dd42
  have t54 : ty44 x = 200 := rw50.1.trans t31
  have t55 : ty44 c3 = 2 := gSg.typ g47 sS39.1 t32 rfl
  have t56 : ty44 c23 = 3 := gSg.typ g47 sS39.1 tc23 rfl
  have s57 := gSg.rawat g47 rf40 (fun w => by cases w) t31 (by decide) s43
  have s58 := gSg.rawat g47 rf40 (fun w => by cases w) t31 (by decide) eh36
  have pr59 : gNo [1, 5, 6, 7, 8, 9, 10, 11, 12, 13, 14, 15, 16, 17, 18, 19, 20, 21, 22, 23, 24, 25, 26, 27, 28, 29, 30, 31, 32, 33, 34, 35, 36, 37, 38, 39, 40, 41, 42] ty44 := gNo.gr g47 (by decide) (gNo.sub (by decide) pr34)
  have sS60 : gSs rT 1027 ty44 [8999, 10999, 31999] h45 h45 := gSs.rf g47.1
  refine gs_rput rfl (by decide) rfl sS60.1 t54 nx rw50.2.1 rf51 rfl (Or.inr rfl) (fun h61 g62 nh61 mh61 kh61 zh61 eh61 fh61 => ?_)
  have G63 : gSg [1, 2, 3, 4, 5, 6, 7, 8, 9, 10, 11, 12, 13, 14, 15, 16, 17, 18, 19, 20, 21, 22, 23, 24, 25, 26, 27, 28, 29, 30, 31, 32, 33, 34, 35, 36, 37, 38, 39, 40, 41, 42, 200] [x] [8999, 10999, 31999] ty h ty44 h61 := gSg.tr (gSg.ss G49 sS60 (by decide)) g62 (by decide) (by decide) (fun x hx => Or.inr hx)
  have sS64 : gSs rT 1027 ty44 [8999, 10999, 31999] h61 h61 := gSs.rf g62.1
  have rf65 := Nat.lt_of_lt_of_eq rw50.2.1 nh61.symm
  have rf66 := zh61.trans rf52
  have dd67 : ∀ k, ¬ k ∈ ([9, 4, 2] : List Nat) → h61.2.2.2.2 x k = defaultValue (gGG.2.1 12 k) := raw_dp fh61 dd53
  have s68 := (fh61 2 (by decide)).trans s57
  have s69 := (fh61 4 (by decide)).trans s58
  refine gz_s 2 (pc' := 34) (L' := [some (.ref x), none, none, none, none]) (S' := [.int (zi 2056), .ref x]) rfl ?_
  refine gs_newr 5 rfl (by decide) rfl sS64.1 (Nat.le_of_lt (Nat.lt_of_le_of_lt (gJ.cell sS64.1 t55 rfl).1 (gJ.cell sS64.1 t55 rfl).2.1)) (by omega) (by omega) rfl rfl (by show (2056 : Int) ≤ _; omega) (by show _ ≤ (2056 : Int); omega) (fun _ _ => gos_i (by decide) (by decide)) (fun ty70 h71 c72 g73 tc72 lc72 nc72 mc72 ec72 dc72 uc72 => ?_)
  have gac72 : h.1 ≤ c72 := by have h8 := G63.2.1; have h9 := sS64.2.1; omega
  have uq74 := uc72 uq48 (Or.inr (gNo.sub (by decide) pr59))
  have G75 : gSg [1, 2, 3, 4, 5, 6, 7, 8, 9, 10, 11, 12, 13, 14, 15, 16, 17, 18, 19, 20, 21, 22, 23, 24, 25, 26, 27, 28, 29, 30, 31, 32, 33, 34, 35, 36, 37, 38, 39, 40, 41, 42, 200] [x] [8999, 10999, 31999] ty h ty70 h71 := gSg.tr (gSg.ss G63 sS64 (by decide)) g73 (by decide) (by decide) (fun x hx => by cases hx)
  have rw76 := gSg.raw g73 rf65 (fun w => by cases w)
  have rf77 := (rw76.2.2.1.trans kh61)
  have rf78 := (rw76.2.2.2.trans rf66)
  have dd79 := gSg.rawd (ci := 12) (ps := [9, 4, 2]) g73 rf65 (fun w => by cases w) t54 (by decide) dd67
  have t80 : ty70 x = 200 := rw76.1.trans t54
  have t81 : ty70 c3 = 2 := gSg.typ g73 sS64.1 t55 rfl
  have t82 : ty70 c23 = 3 := gSg.typ g73 sS64.1 t56 rfl
  have t83 : ty70 c46 = 4 := gSg.typ g73 sS64.1 tc46 rfl
  have s84 := gSg.rawat g73 rf65 (fun w => by cases w) t54 (by decide) s68
  have s85 := gSg.rawat g73 rf65 (fun w => by cases w) t54 (by decide) s69
  have s86 := gSg.rawat g73 rf65 (fun w => by cases w) t54 (by decide) eh61
  have pr87 : gNo [1, 6, 7, 8, 9, 10, 11, 12, 13, 14, 15, 16, 17, 18, 19, 20, 21, 22, 23, 24, 25, 26, 27, 28, 29, 30, 31, 32, 33, 34, 35, 36, 37, 38, 39, 40, 41, 42] ty70 := gNo.gr g73 (by decide) (gNo.sub (by decide) pr59)
  have sS88 : gSs rT 1027 ty70 [8999, 10999, 31999] h71 h71 := gSs.rf g73.1
  refine gs_rput rfl (by decide) rfl sS88.1 t80 nx rw76.2.1 rf77 rfl (Or.inr rfl) (fun h89 g90 nh89 mh89 kh89 zh89 eh89 fh89 => ?_)
  have G91 : gSg [1, 2, 3, 4, 5, 6, 7, 8, 9, 10, 11, 12, 13, 14, 15, 16, 17, 18, 19, 20, 21, 22, 23, 24, 25, 26, 27, 28, 29, 30, 31, 32, 33, 34, 35, 36, 37, 38, 39, 40, 41, 42, 200] [x] [8999, 10999, 31999] ty h ty70 h89 := gSg.tr (gSg.ss G75 sS88 (by decide)) g90 (by decide) (by decide) (fun x hx => Or.inr hx)
  have sS92 : gSs rT 1027 ty70 [8999, 10999, 31999] h89 h89 := gSs.rf g90.1
  have rf93 := Nat.lt_of_lt_of_eq rw76.2.1 nh89.symm
  have rf94 := zh89.trans rf78
  have dd95 : ∀ k, ¬ k ∈ ([10, 9, 4, 2] : List Nat) → h89.2.2.2.2 x k = defaultValue (gGG.2.1 12 k) := raw_dp fh89 dd79
  have s96 := (fh89 2 (by decide)).trans s84
  have s97 := (fh89 4 (by decide)).trans s85
  have s98 := (fh89 9 (by decide)).trans s86
  refine gz_s 2 (pc' := 43) (L' := [some (.ref x), none, none, none, none]) (S' := [.int (zi 2056), .ref x]) rfl ?_
  refine gs_newr 6 rfl (by decide) rfl sS92.1 (Nat.le_of_lt (Nat.lt_of_le_of_lt (gJ.cell sS92.1 t81 rfl).1 (gJ.cell sS92.1 t81 rfl).2.1)) (by omega) (by omega) rfl rfl (by show (2056 : Int) ≤ _; omega) (by show _ ≤ (2056 : Int); omega) (fun _ _ => gos_i (by decide) (by decide)) (fun ty99 h100 c101 g102 tc101 lc101 nc101 mc101 ec101 dc101 uc101 => ?_)
  have gac101 : h.1 ≤ c101 := by have h8 := G91.2.1; have h9 := sS92.2.1; omega
  have uq103 := uc101 uq74 (Or.inr (gNo.sub (by decide) pr87))
  have G104 : gSg [1, 2, 3, 4, 5, 6, 7, 8, 9, 10, 11, 12, 13, 14, 15, 16, 17, 18, 19, 20, 21, 22, 23, 24, 25, 26, 27, 28, 29, 30, 31, 32, 33, 34, 35, 36, 37, 38, 39, 40, 41, 42, 200] [x] [8999, 10999, 31999] ty h ty99 h100 := gSg.tr (gSg.ss G91 sS92 (by decide)) g102 (by decide) (by decide) (fun x hx => by cases hx)
  have rw105 := gSg.raw g102 rf93 (fun w => by cases w)
  have rf106 := (rw105.2.2.1.trans kh89)
  have rf107 := (rw105.2.2.2.trans rf94)
  have dd108 := gSg.rawd (ci := 12) (ps := [10, 9, 4, 2]) g102 rf93 (fun w => by cases w) t80 (by decide) dd95
  have t109 : ty99 x = 200 := rw105.1.trans t80
  have t110 : ty99 c3 = 2 := gSg.typ g102 sS92.1 t81 rfl
  have t111 : ty99 c23 = 3 := gSg.typ g102 sS92.1 t82 rfl
  have t112 : ty99 c46 = 4 := gSg.typ g102 sS92.1 t83 rfl
  have t113 : ty99 c72 = 5 := gSg.typ g102 sS92.1 tc72 rfl
  have s114 := gSg.rawat g102 rf93 (fun w => by cases w) t80 (by decide) s96
  have s115 := gSg.rawat g102 rf93 (fun w => by cases w) t80 (by decide) s97
  have s116 := gSg.rawat g102 rf93 (fun w => by cases w) t80 (by decide) s98
  have s117 := gSg.rawat g102 rf93 (fun w => by cases w) t80 (by decide) eh89
  have pr118 : gNo [1, 7, 8, 9, 10, 11, 12, 13, 14, 15, 16, 17, 18, 19, 20, 21, 22, 23, 24, 25, 26, 27, 28, 29, 30, 31, 32, 33, 34, 35, 36, 37, 38, 39, 40, 41, 42] ty99 := gNo.gr g102 (by decide) (gNo.sub (by decide) pr87)
  have sS119 : gSs rT 1027 ty99 [8999, 10999, 31999] h100 h100 := gSs.rf g102.1
  refine gs_rput rfl (by decide) rfl sS119.1 t109 nx rw105.2.1 rf106 rfl (Or.inr rfl) (fun h120 g121 nh120 mh120 kh120 zh120 eh120 fh120 => ?_)
  have G122 : gSg [1, 2, 3, 4, 5, 6, 7, 8, 9, 10, 11, 12, 13, 14, 15, 16, 17, 18, 19, 20, 21, 22, 23, 24, 25, 26, 27, 28, 29, 30, 31, 32, 33, 34, 35, 36, 37, 38, 39, 40, 41, 42, 200] [x] [8999, 10999, 31999] ty h ty99 h120 := gSg.tr (gSg.ss G104 sS119 (by decide)) g121 (by decide) (by decide) (fun x hx => Or.inr hx)
  have sS123 : gSs rT 1027 ty99 [8999, 10999, 31999] h120 h120 := gSs.rf g121.1
  have rf124 := Nat.lt_of_lt_of_eq rw105.2.1 nh120.symm
  have rf125 := zh120.trans rf107
  have dd126 : ∀ k, ¬ k ∈ ([11, 10, 9, 4, 2] : List Nat) → h120.2.2.2.2 x k = defaultValue (gGG.2.1 12 k) := raw_dp fh120 dd108
  have s127 := (fh120 2 (by decide)).trans s114
  have s128 := (fh120 4 (by decide)).trans s115
  have s129 := (fh120 9 (by decide)).trans s116
  have s130 := (fh120 10 (by decide)).trans s117
  refine gz_s 2 (pc' := 52) (L' := [some (.ref x), none, none, none, none]) (S' := [.int (zi 2056), .ref x]) rfl ?_
  refine gs_newr 7 rfl (by decide) rfl sS123.1 (Nat.le_of_lt (Nat.lt_of_le_of_lt (gJ.cell sS123.1 t110 rfl).1 (gJ.cell sS123.1 t110 rfl).2.1)) (by omega) (by omega) rfl rfl (by show (2056 : Int) ≤ _; omega) (by show _ ≤ (2056 : Int); omega) (fun _ _ => gos_i (by decide) (by decide)) (fun ty131 h132 c133 g134 tc133 lc133 nc133 mc133 ec133 dc133 uc133 => ?_)
  have gac133 : h.1 ≤ c133 := by have h8 := G122.2.1; have h9 := sS123.2.1; omega
  have uq135 := uc133 uq103 (Or.inr (gNo.sub (by decide) pr118))
  have G136 : gSg [1, 2, 3, 4, 5, 6, 7, 8, 9, 10, 11, 12, 13, 14, 15, 16, 17, 18, 19, 20, 21, 22, 23, 24, 25, 26, 27, 28, 29, 30, 31, 32, 33, 34, 35, 36, 37, 38, 39, 40, 41, 42, 200] [x] [8999, 10999, 31999] ty h ty131 h132 := gSg.tr (gSg.ss G122 sS123 (by decide)) g134 (by decide) (by decide) (fun x hx => by cases hx)
  have rw137 := gSg.raw g134 rf124 (fun w => by cases w)
  have rf138 := (rw137.2.2.1.trans kh120)
  have rf139 := (rw137.2.2.2.trans rf125)
  have dd140 := gSg.rawd (ci := 12) (ps := [11, 10, 9, 4, 2]) g134 rf124 (fun w => by cases w) t109 (by decide) dd126
  have t141 : ty131 x = 200 := rw137.1.trans t109
  have t142 : ty131 c3 = 2 := gSg.typ g134 sS123.1 t110 rfl
  have t143 : ty131 c23 = 3 := gSg.typ g134 sS123.1 t111 rfl
  have t144 : ty131 c46 = 4 := gSg.typ g134 sS123.1 t112 rfl
  have t145 : ty131 c72 = 5 := gSg.typ g134 sS123.1 t113 rfl
  have t146 : ty131 c101 = 6 := gSg.typ g134 sS123.1 tc101 rfl
  have s147 := gSg.rawat g134 rf124 (fun w => by cases w) t109 (by decide) s127
  have s148 := gSg.rawat g134 rf124 (fun w => by cases w) t109 (by decide) s128
  have s149 := gSg.rawat g134 rf124 (fun w => by cases w) t109 (by decide) s129
  have s150 := gSg.rawat g134 rf124 (fun w => by cases w) t109 (by decide) s130
  have s151 := gSg.rawat g134 rf124 (fun w => by cases w) t109 (by decide) eh120
  have pr152 : gNo [1, 8, 9, 10, 11, 12, 13, 14, 15, 16, 17, 18, 19, 20, 21, 22, 23, 24, 25, 26, 27, 28, 29, 30, 31, 32, 33, 34, 35, 36, 37, 38, 39, 40, 41, 42] ty131 := gNo.gr g134 (by decide) (gNo.sub (by decide) pr118)
  have sS153 : gSs rT 1027 ty131 [8999, 10999, 31999] h132 h132 := gSs.rf g134.1
  refine gs_rput rfl (by decide) rfl sS153.1 t141 nx rw137.2.1 rf138 rfl (Or.inr rfl) (fun h154 g155 nh154 mh154 kh154 zh154 eh154 fh154 => ?_)
  have G156 : gSg [1, 2, 3, 4, 5, 6, 7, 8, 9, 10, 11, 12, 13, 14, 15, 16, 17, 18, 19, 20, 21, 22, 23, 24, 25, 26, 27, 28, 29, 30, 31, 32, 33, 34, 35, 36, 37, 38, 39, 40, 41, 42, 200] [x] [8999, 10999, 31999] ty h ty131 h154 := gSg.tr (gSg.ss G136 sS153 (by decide)) g155 (by decide) (by decide) (fun x hx => Or.inr hx)
  have sS157 : gSs rT 1027 ty131 [8999, 10999, 31999] h154 h154 := gSs.rf g155.1
  have rf158 := Nat.lt_of_lt_of_eq rw137.2.1 nh154.symm
  have rf159 := zh154.trans rf139
  have dd160 : ∀ k, ¬ k ∈ ([12, 11, 10, 9, 4, 2] : List Nat) → h154.2.2.2.2 x k = defaultValue (gGG.2.1 12 k) := raw_dp fh154 dd140
  have s161 := (fh154 2 (by decide)).trans s147
  have s162 := (fh154 4 (by decide)).trans s148
  have s163 := (fh154 9 (by decide)).trans s149
  have s164 := (fh154 10 (by decide)).trans s150
  have s165 := (fh154 11 (by decide)).trans s151
  refine gz_s 2 (pc' := 61) (L' := [some (.ref x), none, none, none, none]) (S' := [.int (zi 256), .ref x]) rfl ?_
  refine gs_newr 8 rfl (by decide) rfl sS157.1 (Nat.le_of_lt (Nat.lt_of_le_of_lt (gJ.cell sS157.1 t142 rfl).1 (gJ.cell sS157.1 t142 rfl).2.1)) (by omega) (by omega) rfl rfl (by show (256 : Int) ≤ _; omega) (by show _ ≤ (256 : Int); omega) (fun _ _ => gos_i (by decide) (by decide)) (fun ty166 h167 c168 g169 tc168 lc168 nc168 mc168 ec168 dc168 uc168 => ?_)
  have gac168 : h.1 ≤ c168 := by have h8 := G156.2.1; have h9 := sS157.2.1; omega
  have uq170 := uc168 uq135 (Or.inr (gNo.sub (by decide) pr152))
  have G171 : gSg [1, 2, 3, 4, 5, 6, 7, 8, 9, 10, 11, 12, 13, 14, 15, 16, 17, 18, 19, 20, 21, 22, 23, 24, 25, 26, 27, 28, 29, 30, 31, 32, 33, 34, 35, 36, 37, 38, 39, 40, 41, 42, 200] [x] [8999, 10999, 31999] ty h ty166 h167 := gSg.tr (gSg.ss G156 sS157 (by decide)) g169 (by decide) (by decide) (fun x hx => by cases hx)
  have rw172 := gSg.raw g169 rf158 (fun w => by cases w)
  have rf173 := (rw172.2.2.1.trans kh154)
  have rf174 := (rw172.2.2.2.trans rf159)
  have dd175 := gSg.rawd (ci := 12) (ps := [12, 11, 10, 9, 4, 2]) g169 rf158 (fun w => by cases w) t141 (by decide) dd160
  have t176 : ty166 x = 200 := rw172.1.trans t141
  have t177 : ty166 c3 = 2 := gSg.typ g169 sS157.1 t142 rfl
  have t178 : ty166 c23 = 3 := gSg.typ g169 sS157.1 t143 rfl
  have t179 : ty166 c46 = 4 := gSg.typ g169 sS157.1 t144 rfl
  have t180 : ty166 c72 = 5 := gSg.typ g169 sS157.1 t145 rfl
  have t181 : ty166 c101 = 6 := gSg.typ g169 sS157.1 t146 rfl
  have t182 : ty166 c133 = 7 := gSg.typ g169 sS157.1 tc133 rfl
  have s183 := gSg.rawat g169 rf158 (fun w => by cases w) t141 (by decide) s161
  have s184 := gSg.rawat g169 rf158 (fun w => by cases w) t141 (by decide) s162
  have s185 := gSg.rawat g169 rf158 (fun w => by cases w) t141 (by decide) s163
  have s186 := gSg.rawat g169 rf158 (fun w => by cases w) t141 (by decide) s164
  have s187 := gSg.rawat g169 rf158 (fun w => by cases w) t141 (by decide) s165
  have s188 := gSg.rawat g169 rf158 (fun w => by cases w) t141 (by decide) eh154
  have pr189 : gNo [1, 9, 10, 11, 12, 13, 14, 15, 16, 17, 18, 19, 20, 21, 22, 23, 24, 25, 26, 27, 28, 29, 30, 31, 32, 33, 34, 35, 36, 37, 38, 39, 40, 41, 42] ty166 := gNo.gr g169 (by decide) (gNo.sub (by decide) pr152)
  have sS190 : gSs rT 1027 ty166 [8999, 10999, 31999] h167 h167 := gSs.rf g169.1
  refine gs_rput rfl (by decide) rfl sS190.1 t176 nx rw172.2.1 rf173 rfl (Or.inr rfl) (fun h191 g192 nh191 mh191 kh191 zh191 eh191 fh191 => ?_)
  have G193 : gSg [1, 2, 3, 4, 5, 6, 7, 8, 9, 10, 11, 12, 13, 14, 15, 16, 17, 18, 19, 20, 21, 22, 23, 24, 25, 26, 27, 28, 29, 30, 31, 32, 33, 34, 35, 36, 37, 38, 39, 40, 41, 42, 200] [x] [8999, 10999, 31999] ty h ty166 h191 := gSg.tr (gSg.ss G171 sS190 (by decide)) g192 (by decide) (by decide) (fun x hx => Or.inr hx)
  have sS194 : gSs rT 1027 ty166 [8999, 10999, 31999] h191 h191 := gSs.rf g192.1
  have rf195 := Nat.lt_of_lt_of_eq rw172.2.1 nh191.symm
  have rf196 := zh191.trans rf174
  have dd197 : ∀ k, ¬ k ∈ ([13, 12, 11, 10, 9, 4, 2] : List Nat) → h191.2.2.2.2 x k = defaultValue (gGG.2.1 12 k) := raw_dp fh191 dd175
  have s198 := (fh191 2 (by decide)).trans s183
  have s199 := (fh191 4 (by decide)).trans s184
  have s200 := (fh191 9 (by decide)).trans s185
  have s201 := (fh191 10 (by decide)).trans s186
  have s202 := (fh191 11 (by decide)).trans s187
  have s203 := (fh191 12 (by decide)).trans s188
  refine gz_s 2 (pc' := 70) (L' := [some (.ref x), none, none, none, none]) (S' := [.int (zi 256), .ref x]) rfl ?_
  refine gs_newr 9 rfl (by decide) rfl sS194.1 (Nat.le_of_lt (Nat.lt_of_le_of_lt (gJ.cell sS194.1 t177 rfl).1 (gJ.cell sS194.1 t177 rfl).2.1)) (by omega) (by omega) rfl rfl (by show (256 : Int) ≤ _; omega) (by show _ ≤ (256 : Int); omega) (fun _ _ => gos_i (by decide) (by decide)) (fun ty204 h205 c206 g207 tc206 lc206 nc206 mc206 ec206 dc206 uc206 => ?_)
  have gac206 : h.1 ≤ c206 := by have h8 := G193.2.1; have h9 := sS194.2.1; omega
  have uq208 := uc206 uq170 (Or.inr (gNo.sub (by decide) pr189))
  have G209 : gSg [1, 2, 3, 4, 5, 6, 7, 8, 9, 10, 11, 12, 13, 14, 15, 16, 17, 18, 19, 20, 21, 22, 23, 24, 25, 26, 27, 28, 29, 30, 31, 32, 33, 34, 35, 36, 37, 38, 39, 40, 41, 42, 200] [x] [8999, 10999, 31999] ty h ty204 h205 := gSg.tr (gSg.ss G193 sS194 (by decide)) g207 (by decide) (by decide) (fun x hx => by cases hx)
  have rw210 := gSg.raw g207 rf195 (fun w => by cases w)
  have rf211 := (rw210.2.2.1.trans kh191)
  have rf212 := (rw210.2.2.2.trans rf196)
  have dd213 := gSg.rawd (ci := 12) (ps := [13, 12, 11, 10, 9, 4, 2]) g207 rf195 (fun w => by cases w) t176 (by decide) dd197
  have t214 : ty204 x = 200 := rw210.1.trans t176
  have t215 : ty204 c3 = 2 := gSg.typ g207 sS194.1 t177 rfl
  have t216 : ty204 c23 = 3 := gSg.typ g207 sS194.1 t178 rfl
  have t217 : ty204 c46 = 4 := gSg.typ g207 sS194.1 t179 rfl
  have t218 : ty204 c72 = 5 := gSg.typ g207 sS194.1 t180 rfl
  have t219 : ty204 c101 = 6 := gSg.typ g207 sS194.1 t181 rfl
  have t220 : ty204 c133 = 7 := gSg.typ g207 sS194.1 t182 rfl
  have t221 : ty204 c168 = 8 := gSg.typ g207 sS194.1 tc168 rfl
  have s222 := gSg.rawat g207 rf195 (fun w => by cases w) t176 (by decide) s198
  have s223 := gSg.rawat g207 rf195 (fun w => by cases w) t176 (by decide) s199
  have s224 := gSg.rawat g207 rf195 (fun w => by cases w) t176 (by decide) s200
  have s225 := gSg.rawat g207 rf195 (fun w => by cases w) t176 (by decide) s201
  have s226 := gSg.rawat g207 rf195 (fun w => by cases w) t176 (by decide) s202
  have s227 := gSg.rawat g207 rf195 (fun w => by cases w) t176 (by decide) s203
  have s228 := gSg.rawat g207 rf195 (fun w => by cases w) t176 (by decide) eh191
  have pr229 : gNo [1, 10, 11, 12, 13, 14, 15, 16, 17, 18, 19, 20, 21, 22, 23, 24, 25, 26, 27, 28, 29, 30, 31, 32, 33, 34, 35, 36, 37, 38, 39, 40, 41, 42] ty204 := gNo.gr g207 (by decide) (gNo.sub (by decide) pr189)
  have sS230 : gSs rT 1027 ty204 [8999, 10999, 31999] h205 h205 := gSs.rf g207.1
  refine gs_rput rfl (by decide) rfl sS230.1 t214 nx rw210.2.1 rf211 rfl (Or.inr rfl) (fun h231 g232 nh231 mh231 kh231 zh231 eh231 fh231 => ?_)
  have G233 : gSg [1, 2, 3, 4, 5, 6, 7, 8, 9, 10, 11, 12, 13, 14, 15, 16, 17, 18, 19, 20, 21, 22, 23, 24, 25, 26, 27, 28, 29, 30, 31, 32, 33, 34, 35, 36, 37, 38, 39, 40, 41, 42, 200] [x] [8999, 10999, 31999] ty h ty204 h231 := gSg.tr (gSg.ss G209 sS230 (by decide)) g232 (by decide) (by decide) (fun x hx => Or.inr hx)
  have sS234 : gSs rT 1027 ty204 [8999, 10999, 31999] h231 h231 := gSs.rf g232.1
  have rf235 := Nat.lt_of_lt_of_eq rw210.2.1 nh231.symm
  have rf236 := zh231.trans rf212
  have dd237 : ∀ k, ¬ k ∈ ([14, 13, 12, 11, 10, 9, 4, 2] : List Nat) → h231.2.2.2.2 x k = defaultValue (gGG.2.1 12 k) := raw_dp fh231 dd213
  have s238 := (fh231 2 (by decide)).trans s222
  have s239 := (fh231 4 (by decide)).trans s223
  have s240 := (fh231 9 (by decide)).trans s224
  have s241 := (fh231 10 (by decide)).trans s225
  have s242 := (fh231 11 (by decide)).trans s226
  have s243 := (fh231 12 (by decide)).trans s227
  have s244 := (fh231 13 (by decide)).trans s228
  refine gz_s 2 (pc' := 78) (L' := [some (.ref x), none, none, none, none]) (S' := [.int (zi 64), .ref x]) rfl ?_
  refine gs_newr 10 rfl (by decide) rfl sS234.1 (Nat.le_of_lt (Nat.lt_of_le_of_lt (gJ.cell sS234.1 t215 rfl).1 (gJ.cell sS234.1 t215 rfl).2.1)) (by omega) (by omega) rfl rfl (by show (64 : Int) ≤ _; omega) (by show _ ≤ (64 : Int); omega) (fun _ _ => gos_i (by decide) (by decide)) (fun ty245 h246 c247 g248 tc247 lc247 nc247 mc247 ec247 dc247 uc247 => ?_)
  have gac247 : h.1 ≤ c247 := by have h8 := G233.2.1; have h9 := sS234.2.1; omega
  have uq249 := uc247 uq208 (Or.inr (gNo.sub (by decide) pr229))
  have G250 : gSg [1, 2, 3, 4, 5, 6, 7, 8, 9, 10, 11, 12, 13, 14, 15, 16, 17, 18, 19, 20, 21, 22, 23, 24, 25, 26, 27, 28, 29, 30, 31, 32, 33, 34, 35, 36, 37, 38, 39, 40, 41, 42, 200] [x] [8999, 10999, 31999] ty h ty245 h246 := gSg.tr (gSg.ss G233 sS234 (by decide)) g248 (by decide) (by decide) (fun x hx => by cases hx)
  have rw251 := gSg.raw g248 rf235 (fun w => by cases w)
  have rf252 := (rw251.2.2.1.trans kh231)
  have rf253 := (rw251.2.2.2.trans rf236)
  have dd254 := gSg.rawd (ci := 12) (ps := [14, 13, 12, 11, 10, 9, 4, 2]) g248 rf235 (fun w => by cases w) t214 (by decide) dd237
  have t255 : ty245 x = 200 := rw251.1.trans t214
  have t256 : ty245 c3 = 2 := gSg.typ g248 sS234.1 t215 rfl
  have t257 : ty245 c23 = 3 := gSg.typ g248 sS234.1 t216 rfl
  have t258 : ty245 c46 = 4 := gSg.typ g248 sS234.1 t217 rfl
  have t259 : ty245 c72 = 5 := gSg.typ g248 sS234.1 t218 rfl
  have t260 : ty245 c101 = 6 := gSg.typ g248 sS234.1 t219 rfl
  have t261 : ty245 c133 = 7 := gSg.typ g248 sS234.1 t220 rfl
  have t262 : ty245 c168 = 8 := gSg.typ g248 sS234.1 t221 rfl
  have t263 : ty245 c206 = 9 := gSg.typ g248 sS234.1 tc206 rfl
  have s264 := gSg.rawat g248 rf235 (fun w => by cases w) t214 (by decide) s238
  have s265 := gSg.rawat g248 rf235 (fun w => by cases w) t214 (by decide) s239
  have s266 := gSg.rawat g248 rf235 (fun w => by cases w) t214 (by decide) s240
  have s267 := gSg.rawat g248 rf235 (fun w => by cases w) t214 (by decide) s241
  have s268 := gSg.rawat g248 rf235 (fun w => by cases w) t214 (by decide) s242
  have s269 := gSg.rawat g248 rf235 (fun w => by cases w) t214 (by decide) s243
  have s270 := gSg.rawat g248 rf235 (fun w => by cases w) t214 (by decide) s244
  have s271 := gSg.rawat g248 rf235 (fun w => by cases w) t214 (by decide) eh231
  have pr272 : gNo [1, 11, 12, 13, 14, 15, 16, 17, 18, 19, 20, 21, 22, 23, 24, 25, 26, 27, 28, 29, 30, 31, 32, 33, 34, 35, 36, 37, 38, 39, 40, 41, 42] ty245 := gNo.gr g248 (by decide) (gNo.sub (by decide) pr229)
  have sS273 : gSs rT 1027 ty245 [8999, 10999, 31999] h246 h246 := gSs.rf g248.1
  refine gs_rput rfl (by decide) rfl sS273.1 t255 nx rw251.2.1 rf252 rfl (Or.inr rfl) (fun h274 g275 nh274 mh274 kh274 zh274 eh274 fh274 => ?_)
  have G276 : gSg [1, 2, 3, 4, 5, 6, 7, 8, 9, 10, 11, 12, 13, 14, 15, 16, 17, 18, 19, 20, 21, 22, 23, 24, 25, 26, 27, 28, 29, 30, 31, 32, 33, 34, 35, 36, 37, 38, 39, 40, 41, 42, 200] [x] [8999, 10999, 31999] ty h ty245 h274 := gSg.tr (gSg.ss G250 sS273 (by decide)) g275 (by decide) (by decide) (fun x hx => Or.inr hx)
  have sS277 : gSs rT 1027 ty245 [8999, 10999, 31999] h274 h274 := gSs.rf g275.1
  have rf278 := Nat.lt_of_lt_of_eq rw251.2.1 nh274.symm
  have rf279 := zh274.trans rf253
  have dd280 : ∀ k, ¬ k ∈ ([15, 14, 13, 12, 11, 10, 9, 4, 2] : List Nat) → h274.2.2.2.2 x k = defaultValue (gGG.2.1 12 k) := raw_dp fh274 dd254
  have s281 := (fh274 2 (by decide)).trans s264
  have s282 := (fh274 4 (by decide)).trans s265
  have s283 := (fh274 9 (by decide)).trans s266
  have s284 := (fh274 10 (by decide)).trans s267
  have s285 := (fh274 11 (by decide)).trans s268
  have s286 := (fh274 12 (by decide)).trans s269
  have s287 := (fh274 13 (by decide)).trans s270
  have s288 := (fh274 14 (by decide)).trans s271
  refine gz_s 2 (pc' := 85) (L' := [some (.ref x), none, none, none, none]) (S' := [.int (zi 3), .ref x]) rfl ?_
  refine gs_newr 11 rfl (by decide) rfl sS277.1 (Nat.le_of_lt (Nat.lt_of_le_of_lt (gJ.cell sS277.1 t256 rfl).1 (gJ.cell sS277.1 t256 rfl).2.1)) (by omega) (by omega) rfl rfl (by show (3 : Int) ≤ _; omega) (by show _ ≤ (3 : Int); omega) (fun _ _ => gos_i (by decide) (by decide)) (fun ty289 h290 c291 g292 tc291 lc291 nc291 mc291 ec291 dc291 uc291 => ?_)
  have gac291 : h.1 ≤ c291 := by have h8 := G276.2.1; have h9 := sS277.2.1; omega
  have uq293 := uc291 uq249 (Or.inr (gNo.sub (by decide) pr272))
  have G294 : gSg [1, 2, 3, 4, 5, 6, 7, 8, 9, 10, 11, 12, 13, 14, 15, 16, 17, 18, 19, 20, 21, 22, 23, 24, 25, 26, 27, 28, 29, 30, 31, 32, 33, 34, 35, 36, 37, 38, 39, 40, 41, 42, 200] [x] [8999, 10999, 31999] ty h ty289 h290 := gSg.tr (gSg.ss G276 sS277 (by decide)) g292 (by decide) (by decide) (fun x hx => by cases hx)
  have rw295 := gSg.raw g292 rf278 (fun w => by cases w)
  have rf296 := (rw295.2.2.1.trans kh274)
  have rf297 := (rw295.2.2.2.trans rf279)
  have dd298 := gSg.rawd (ci := 12) (ps := [15, 14, 13, 12, 11, 10, 9, 4, 2]) g292 rf278 (fun w => by cases w) t255 (by decide) dd280
  have t299 : ty289 x = 200 := rw295.1.trans t255
  have t300 : ty289 c3 = 2 := gSg.typ g292 sS277.1 t256 rfl
  have t301 : ty289 c23 = 3 := gSg.typ g292 sS277.1 t257 rfl
  have t302 : ty289 c46 = 4 := gSg.typ g292 sS277.1 t258 rfl
  have t303 : ty289 c72 = 5 := gSg.typ g292 sS277.1 t259 rfl
  have t304 : ty289 c101 = 6 := gSg.typ g292 sS277.1 t260 rfl
  have t305 : ty289 c133 = 7 := gSg.typ g292 sS277.1 t261 rfl
  have t306 : ty289 c168 = 8 := gSg.typ g292 sS277.1 t262 rfl
  have t307 : ty289 c206 = 9 := gSg.typ g292 sS277.1 t263 rfl
  have t308 : ty289 c247 = 10 := gSg.typ g292 sS277.1 tc247 rfl
  have s309 := gSg.rawat g292 rf278 (fun w => by cases w) t255 (by decide) s281
  have s310 := gSg.rawat g292 rf278 (fun w => by cases w) t255 (by decide) s282
  have s311 := gSg.rawat g292 rf278 (fun w => by cases w) t255 (by decide) s283
  have s312 := gSg.rawat g292 rf278 (fun w => by cases w) t255 (by decide) s284
  have s313 := gSg.rawat g292 rf278 (fun w => by cases w) t255 (by decide) s285
  have s314 := gSg.rawat g292 rf278 (fun w => by cases w) t255 (by decide) s286
  have s315 := gSg.rawat g292 rf278 (fun w => by cases w) t255 (by decide) s287
  have s316 := gSg.rawat g292 rf278 (fun w => by cases w) t255 (by decide) s288
  have s317 := gSg.rawat g292 rf278 (fun w => by cases w) t255 (by decide) eh274
  have pr318 : gNo [1, 12, 13, 14, 15, 16, 17, 18, 19, 20, 21, 22, 23, 24, 25, 26, 27, 28, 29, 30, 31, 32, 33, 34, 35, 36, 37, 38, 39, 40, 41, 42] ty289 := gNo.gr g292 (by decide) (gNo.sub (by decide) pr272)
  have sS319 : gSs rT 1027 ty289 [8999, 10999, 31999] h290 h290 := gSs.rf g292.1
  refine gs_rput rfl (by decide) rfl sS319.1 t299 nx rw295.2.1 rf296 rfl (Or.inr rfl) (fun h320 g321 nh320 mh320 kh320 zh320 eh320 fh320 => ?_)
  have G322 : gSg [1, 2, 3, 4, 5, 6, 7, 8, 9, 10, 11, 12, 13, 14, 15, 16, 17, 18, 19, 20, 21, 22, 23, 24, 25, 26, 27, 28, 29, 30, 31, 32, 33, 34, 35, 36, 37, 38, 39, 40, 41, 42, 200] [x] [8999, 10999, 31999] ty h ty289 h320 := gSg.tr (gSg.ss G294 sS319 (by decide)) g321 (by decide) (by decide) (fun x hx => Or.inr hx)
  have sS323 : gSs rT 1027 ty289 [8999, 10999, 31999] h320 h320 := gSs.rf g321.1
  have rf324 := Nat.lt_of_lt_of_eq rw295.2.1 nh320.symm
  have rf325 := zh320.trans rf297
  have dd326 : ∀ k, ¬ k ∈ ([25, 15, 14, 13, 12, 11, 10, 9, 4, 2] : List Nat) → h320.2.2.2.2 x k = defaultValue (gGG.2.1 12 k) := raw_dp fh320 dd298
  have s327 := (fh320 2 (by decide)).trans s309
  have s328 := (fh320 4 (by decide)).trans s310
  have s329 := (fh320 9 (by decide)).trans s311
  have s330 := (fh320 10 (by decide)).trans s312
  have s331 := (fh320 11 (by decide)).trans s313
  have s332 := (fh320 12 (by decide)).trans s314
  have s333 := (fh320 13 (by decide)).trans s315
  have s334 := (fh320 14 (by decide)).trans s316
  have s335 := (fh320 15 (by decide)).trans s317
  refine gz_s 2 (pc' := 92) (L' := [some (.ref x), none, none, none, none]) (S' := [.int (zi 3), .ref x]) rfl ?_
  refine gs_newr 12 rfl (by decide) rfl sS323.1 (Nat.le_of_lt (Nat.lt_of_le_of_lt (gJ.cell sS323.1 t300 rfl).1 (gJ.cell sS323.1 t300 rfl).2.1)) (by omega) (by omega) rfl rfl (by show (3 : Int) ≤ _; omega) (by show _ ≤ (3 : Int); omega) (fun _ _ => gos_i (by decide) (by decide)) (fun ty336 h337 c338 g339 tc338 lc338 nc338 mc338 ec338 dc338 uc338 => ?_)
  have gac338 : h.1 ≤ c338 := by have h8 := G322.2.1; have h9 := sS323.2.1; omega
  have uq340 := uc338 uq293 (Or.inr (gNo.sub (by decide) pr318))
  have G341 : gSg [1, 2, 3, 4, 5, 6, 7, 8, 9, 10, 11, 12, 13, 14, 15, 16, 17, 18, 19, 20, 21, 22, 23, 24, 25, 26, 27, 28, 29, 30, 31, 32, 33, 34, 35, 36, 37, 38, 39, 40, 41, 42, 200] [x] [8999, 10999, 31999] ty h ty336 h337 := gSg.tr (gSg.ss G322 sS323 (by decide)) g339 (by decide) (by decide) (fun x hx => by cases hx)
  have rw342 := gSg.raw g339 rf324 (fun w => by cases w)
  have rf343 := (rw342.2.2.1.trans kh320)
  have rf344 := (rw342.2.2.2.trans rf325)
  have dd345 := gSg.rawd (ci := 12) (ps := [25, 15, 14, 13, 12, 11, 10, 9, 4, 2]) g339 rf324 (fun w => by cases w) t299 (by decide) dd326
  have t346 : ty336 x = 200 := rw342.1.trans t299
  have t347 : ty336 c3 = 2 := gSg.typ g339 sS323.1 t300 rfl
  have t348 : ty336 c23 = 3 := gSg.typ g339 sS323.1 t301 rfl
  have t349 : ty336 c46 = 4 := gSg.typ g339 sS323.1 t302 rfl
  have t350 : ty336 c72 = 5 := gSg.typ g339 sS323.1 t303 rfl
  have t351 : ty336 c101 = 6 := gSg.typ g339 sS323.1 t304 rfl
  have t352 : ty336 c133 = 7 := gSg.typ g339 sS323.1 t305 rfl
  have t353 : ty336 c168 = 8 := gSg.typ g339 sS323.1 t306 rfl
  have t354 : ty336 c206 = 9 := gSg.typ g339 sS323.1 t307 rfl
  have t355 : ty336 c247 = 10 := gSg.typ g339 sS323.1 t308 rfl
  have t356 : ty336 c291 = 11 := gSg.typ g339 sS323.1 tc291 rfl
  have s357 := gSg.rawat g339 rf324 (fun w => by cases w) t299 (by decide) s327
  have s358 := gSg.rawat g339 rf324 (fun w => by cases w) t299 (by decide) s328
  have s359 := gSg.rawat g339 rf324 (fun w => by cases w) t299 (by decide) s329
  have s360 := gSg.rawat g339 rf324 (fun w => by cases w) t299 (by decide) s330
  have s361 := gSg.rawat g339 rf324 (fun w => by cases w) t299 (by decide) s331
  have s362 := gSg.rawat g339 rf324 (fun w => by cases w) t299 (by decide) s332
  have s363 := gSg.rawat g339 rf324 (fun w => by cases w) t299 (by decide) s333
  have s364 := gSg.rawat g339 rf324 (fun w => by cases w) t299 (by decide) s334
  have s365 := gSg.rawat g339 rf324 (fun w => by cases w) t299 (by decide) s335
  have s366 := gSg.rawat g339 rf324 (fun w => by cases w) t299 (by decide) eh320
  have pr367 : gNo [1, 13, 14, 15, 16, 17, 18, 19, 20, 21, 22, 23, 24, 25, 26, 27, 28, 29, 30, 31, 32, 33, 34, 35, 36, 37, 38, 39, 40, 41, 42] ty336 := gNo.gr g339 (by decide) (gNo.sub (by decide) pr318)
  have sS368 : gSs rT 1027 ty336 [8999, 10999, 31999] h337 h337 := gSs.rf g339.1
  refine gs_rput rfl (by decide) rfl sS368.1 t346 nx rw342.2.1 rf343 rfl (Or.inr rfl) (fun h369 g370 nh369 mh369 kh369 zh369 eh369 fh369 => ?_)
  have G371 : gSg [1, 2, 3, 4, 5, 6, 7, 8, 9, 10, 11, 12, 13, 14, 15, 16, 17, 18, 19, 20, 21, 22, 23, 24, 25, 26, 27, 28, 29, 30, 31, 32, 33, 34, 35, 36, 37, 38, 39, 40, 41, 42, 200] [x] [8999, 10999, 31999] ty h ty336 h369 := gSg.tr (gSg.ss G341 sS368 (by decide)) g370 (by decide) (by decide) (fun x hx => Or.inr hx)
  have sS372 : gSs rT 1027 ty336 [8999, 10999, 31999] h369 h369 := gSs.rf g370.1
  have rf373 := Nat.lt_of_lt_of_eq rw342.2.1 nh369.symm
  have rf374 := zh369.trans rf344
  have dd375 : ∀ k, ¬ k ∈ ([26, 25, 15, 14, 13, 12, 11, 10, 9, 4, 2] : List Nat) → h369.2.2.2.2 x k = defaultValue (gGG.2.1 12 k) := raw_dp fh369 dd345
  have s376 := (fh369 2 (by decide)).trans s357
  have s377 := (fh369 4 (by decide)).trans s358
  have s378 := (fh369 9 (by decide)).trans s359
  have s379 := (fh369 10 (by decide)).trans s360
  have s380 := (fh369 11 (by decide)).trans s361
  have s381 := (fh369 12 (by decide)).trans s362
  have s382 := (fh369 13 (by decide)).trans s363
  have s383 := (fh369 14 (by decide)).trans s364
  have s384 := (fh369 15 (by decide)).trans s365
  have s385 := (fh369 25 (by decide)).trans s366
  refine gz_s 2 (pc' := 99) (L' := [some (.ref x), none, none, none, none]) (S' := [.int (zi 3), .ref x]) rfl ?_
  refine gs_newr 13 rfl (by decide) rfl sS372.1 (Nat.le_of_lt (Nat.lt_of_le_of_lt (gJ.cell sS372.1 t347 rfl).1 (gJ.cell sS372.1 t347 rfl).2.1)) (by omega) (by omega) rfl rfl (by show (3 : Int) ≤ _; omega) (by show _ ≤ (3 : Int); omega) (fun _ _ => gos_i (by decide) (by decide)) (fun ty386 h387 c388 g389 tc388 lc388 nc388 mc388 ec388 dc388 uc388 => ?_)
  have gac388 : h.1 ≤ c388 := by have h8 := G371.2.1; have h9 := sS372.2.1; omega
  have uq390 := uc388 uq340 (Or.inr (gNo.sub (by decide) pr367))
  have G391 : gSg [1, 2, 3, 4, 5, 6, 7, 8, 9, 10, 11, 12, 13, 14, 15, 16, 17, 18, 19, 20, 21, 22, 23, 24, 25, 26, 27, 28, 29, 30, 31, 32, 33, 34, 35, 36, 37, 38, 39, 40, 41, 42, 200] [x] [8999, 10999, 31999] ty h ty386 h387 := gSg.tr (gSg.ss G371 sS372 (by decide)) g389 (by decide) (by decide) (fun x hx => by cases hx)
  have rw392 := gSg.raw g389 rf373 (fun w => by cases w)
  have rf393 := (rw392.2.2.1.trans kh369)
  have rf394 := (rw392.2.2.2.trans rf374)
  have dd395 := gSg.rawd (ci := 12) (ps := [26, 25, 15, 14, 13, 12, 11, 10, 9, 4, 2]) g389 rf373 (fun w => by cases w) t346 (by decide) dd375
  have t396 : ty386 x = 200 := rw392.1.trans t346
  have t397 : ty386 c3 = 2 := gSg.typ g389 sS372.1 t347 rfl
  have t398 : ty386 c23 = 3 := gSg.typ g389 sS372.1 t348 rfl
  have t399 : ty386 c46 = 4 := gSg.typ g389 sS372.1 t349 rfl
  have t400 : ty386 c72 = 5 := gSg.typ g389 sS372.1 t350 rfl
  have t401 : ty386 c101 = 6 := gSg.typ g389 sS372.1 t351 rfl
  have t402 : ty386 c133 = 7 := gSg.typ g389 sS372.1 t352 rfl
  have t403 : ty386 c168 = 8 := gSg.typ g389 sS372.1 t353 rfl
  have t404 : ty386 c206 = 9 := gSg.typ g389 sS372.1 t354 rfl
  have t405 : ty386 c247 = 10 := gSg.typ g389 sS372.1 t355 rfl
  have t406 : ty386 c291 = 11 := gSg.typ g389 sS372.1 t356 rfl
  have t407 : ty386 c338 = 12 := gSg.typ g389 sS372.1 tc338 rfl
  have s408 := gSg.rawat g389 rf373 (fun w => by cases w) t346 (by decide) s376
  have s409 := gSg.rawat g389 rf373 (fun w => by cases w) t346 (by decide) s377
  have s410 := gSg.rawat g389 rf373 (fun w => by cases w) t346 (by decide) s378
  have s411 := gSg.rawat g389 rf373 (fun w => by cases w) t346 (by decide) s379
  have s412 := gSg.rawat g389 rf373 (fun w => by cases w) t346 (by decide) s380
  have s413 := gSg.rawat g389 rf373 (fun w => by cases w) t346 (by decide) s381
  have s414 := gSg.rawat g389 rf373 (fun w => by cases w) t346 (by decide) s382
  have s415 := gSg.rawat g389 rf373 (fun w => by cases w) t346 (by decide) s383
  have s416 := gSg.rawat g389 rf373 (fun w => by cases w) t346 (by decide) s384
  have s417 := gSg.rawat g389 rf373 (fun w => by cases w) t346 (by decide) s385
  have s418 := gSg.rawat g389 rf373 (fun w => by cases w) t346 (by decide) eh369
  have pr419 : gNo [1, 14, 15, 16, 17, 18, 19, 20, 21, 22, 23, 24, 25, 26, 27, 28, 29, 30, 31, 32, 33, 34, 35, 36, 37, 38, 39, 40, 41, 42] ty386 := gNo.gr g389 (by decide) (gNo.sub (by decide) pr367)
  have sS420 : gSs rT 1027 ty386 [8999, 10999, 31999] h387 h387 := gSs.rf g389.1
  refine gs_rput rfl (by decide) rfl sS420.1 t396 nx rw392.2.1 rf393 rfl (Or.inr rfl) (fun h421 g422 nh421 mh421 kh421 zh421 eh421 fh421 => ?_)
  have G423 : gSg [1, 2, 3, 4, 5, 6, 7, 8, 9, 10, 11, 12, 13, 14, 15, 16, 17, 18, 19, 20, 21, 22, 23, 24, 25, 26, 27, 28, 29, 30, 31, 32, 33, 34, 35, 36, 37, 38, 39, 40, 41, 42, 200] [x] [8999, 10999, 31999] ty h ty386 h421 := gSg.tr (gSg.ss G391 sS420 (by decide)) g422 (by decide) (by decide) (fun x hx => Or.inr hx)
  have sS424 : gSs rT 1027 ty386 [8999, 10999, 31999] h421 h421 := gSs.rf g422.1
  have rf425 := Nat.lt_of_lt_of_eq rw392.2.1 nh421.symm
  have rf426 := zh421.trans rf394
  have dd427 : ∀ k, ¬ k ∈ ([27, 26, 25, 15, 14, 13, 12, 11, 10, 9, 4, 2] : List Nat) → h421.2.2.2.2 x k = defaultValue (gGG.2.1 12 k) := raw_dp fh421 dd395
  have s428 := (fh421 2 (by decide)).trans s408
  have s429 := (fh421 4 (by decide)).trans s409
  have s430 := (fh421 9 (by decide)).trans s410
  have s431 := (fh421 10 (by decide)).trans s411
  have s432 := (fh421 11 (by decide)).trans s412
  have s433 := (fh421 12 (by decide)).trans s413
  have s434 := (fh421 13 (by decide)).trans s414
  have s435 := (fh421 14 (by decide)).trans s415
  have s436 := (fh421 15 (by decide)).trans s416
  have s437 := (fh421 25 (by decide)).trans s417
  have s438 := (fh421 26 (by decide)).trans s418
  refine gz_s 2 (pc' := 106) (L' := [some (.ref x), none, none, none, none]) (S' := [.int (zi 3), .ref x]) rfl ?_
  refine gs_newr 14 rfl (by decide) rfl sS424.1 (Nat.le_of_lt (Nat.lt_of_le_of_lt (gJ.cell sS424.1 t397 rfl).1 (gJ.cell sS424.1 t397 rfl).2.1)) (by omega) (by omega) rfl rfl (by show (3 : Int) ≤ _; omega) (by show _ ≤ (3 : Int); omega) (fun _ _ => gos_i (by decide) (by decide)) (fun ty439 h440 c441 g442 tc441 lc441 nc441 mc441 ec441 dc441 uc441 => ?_)
  have gac441 : h.1 ≤ c441 := by have h8 := G423.2.1; have h9 := sS424.2.1; omega
  have uq443 := uc441 uq390 (Or.inr (gNo.sub (by decide) pr419))
  have G444 : gSg [1, 2, 3, 4, 5, 6, 7, 8, 9, 10, 11, 12, 13, 14, 15, 16, 17, 18, 19, 20, 21, 22, 23, 24, 25, 26, 27, 28, 29, 30, 31, 32, 33, 34, 35, 36, 37, 38, 39, 40, 41, 42, 200] [x] [8999, 10999, 31999] ty h ty439 h440 := gSg.tr (gSg.ss G423 sS424 (by decide)) g442 (by decide) (by decide) (fun x hx => by cases hx)
  have rw445 := gSg.raw g442 rf425 (fun w => by cases w)
  have rf446 := (rw445.2.2.1.trans kh421)
  have rf447 := (rw445.2.2.2.trans rf426)
  have dd448 := gSg.rawd (ci := 12) (ps := [27, 26, 25, 15, 14, 13, 12, 11, 10, 9, 4, 2]) g442 rf425 (fun w => by cases w) t396 (by decide) dd427
  have t449 : ty439 x = 200 := rw445.1.trans t396
  have t450 : ty439 c3 = 2 := gSg.typ g442 sS424.1 t397 rfl
  have t451 : ty439 c23 = 3 := gSg.typ g442 sS424.1 t398 rfl
  have t452 : ty439 c46 = 4 := gSg.typ g442 sS424.1 t399 rfl
  have t453 : ty439 c72 = 5 := gSg.typ g442 sS424.1 t400 rfl
  have t454 : ty439 c101 = 6 := gSg.typ g442 sS424.1 t401 rfl
  have t455 : ty439 c133 = 7 := gSg.typ g442 sS424.1 t402 rfl
  have t456 : ty439 c168 = 8 := gSg.typ g442 sS424.1 t403 rfl
  have t457 : ty439 c206 = 9 := gSg.typ g442 sS424.1 t404 rfl
  have t458 : ty439 c247 = 10 := gSg.typ g442 sS424.1 t405 rfl
  have t459 : ty439 c291 = 11 := gSg.typ g442 sS424.1 t406 rfl
  have t460 : ty439 c338 = 12 := gSg.typ g442 sS424.1 t407 rfl
  have t461 : ty439 c388 = 13 := gSg.typ g442 sS424.1 tc388 rfl
  have s462 := gSg.rawat g442 rf425 (fun w => by cases w) t396 (by decide) s428
  have s463 := gSg.rawat g442 rf425 (fun w => by cases w) t396 (by decide) s429
  have s464 := gSg.rawat g442 rf425 (fun w => by cases w) t396 (by decide) s430
  have s465 := gSg.rawat g442 rf425 (fun w => by cases w) t396 (by decide) s431
  have s466 := gSg.rawat g442 rf425 (fun w => by cases w) t396 (by decide) s432
  have s467 := gSg.rawat g442 rf425 (fun w => by cases w) t396 (by decide) s433
  have s468 := gSg.rawat g442 rf425 (fun w => by cases w) t396 (by decide) s434
  have s469 := gSg.rawat g442 rf425 (fun w => by cases w) t396 (by decide) s435
  have s470 := gSg.rawat g442 rf425 (fun w => by cases w) t396 (by decide) s436
  have s471 := gSg.rawat g442 rf425 (fun w => by cases w) t396 (by decide) s437
  have s472 := gSg.rawat g442 rf425 (fun w => by cases w) t396 (by decide) s438
  have s473 := gSg.rawat g442 rf425 (fun w => by cases w) t396 (by decide) eh421
  have pr474 : gNo [1, 15, 16, 17, 18, 19, 20, 21, 22, 23, 24, 25, 26, 27, 28, 29, 30, 31, 32, 33, 34, 35, 36, 37, 38, 39, 40, 41, 42] ty439 := gNo.gr g442 (by decide) (gNo.sub (by decide) pr419)
  have sS475 : gSs rT 1027 ty439 [8999, 10999, 31999] h440 h440 := gSs.rf g442.1
  refine gs_rput rfl (by decide) rfl sS475.1 t449 nx rw445.2.1 rf446 rfl (Or.inr rfl) (fun h476 g477 nh476 mh476 kh476 zh476 eh476 fh476 => ?_)
  have G478 : gSg [1, 2, 3, 4, 5, 6, 7, 8, 9, 10, 11, 12, 13, 14, 15, 16, 17, 18, 19, 20, 21, 22, 23, 24, 25, 26, 27, 28, 29, 30, 31, 32, 33, 34, 35, 36, 37, 38, 39, 40, 41, 42, 200] [x] [8999, 10999, 31999] ty h ty439 h476 := gSg.tr (gSg.ss G444 sS475 (by decide)) g477 (by decide) (by decide) (fun x hx => Or.inr hx)
  have sS479 : gSs rT 1027 ty439 [8999, 10999, 31999] h476 h476 := gSs.rf g477.1
  have rf480 := Nat.lt_of_lt_of_eq rw445.2.1 nh476.symm
  have rf481 := zh476.trans rf447
  have dd482 : ∀ k, ¬ k ∈ ([28, 27, 26, 25, 15, 14, 13, 12, 11, 10, 9, 4, 2] : List Nat) → h476.2.2.2.2 x k = defaultValue (gGG.2.1 12 k) := raw_dp fh476 dd448
  have s483 := (fh476 2 (by decide)).trans s462
  have s484 := (fh476 4 (by decide)).trans s463
  have s485 := (fh476 9 (by decide)).trans s464
  have s486 := (fh476 10 (by decide)).trans s465
  have s487 := (fh476 11 (by decide)).trans s466
  have s488 := (fh476 12 (by decide)).trans s467
  have s489 := (fh476 13 (by decide)).trans s468
  have s490 := (fh476 14 (by decide)).trans s469
  have s491 := (fh476 15 (by decide)).trans s470
  have s492 := (fh476 25 (by decide)).trans s471
  have s493 := (fh476 26 (by decide)).trans s472
  have s494 := (fh476 27 (by decide)).trans s473
  refine gz_s 2 (pc' := 113) (L' := [some (.ref x), none, none, none, none]) (S' := [.int (zi 3), .ref x]) rfl ?_
  refine gs_newr 15 rfl (by decide) rfl sS479.1 (Nat.le_of_lt (Nat.lt_of_le_of_lt (gJ.cell sS479.1 t450 rfl).1 (gJ.cell sS479.1 t450 rfl).2.1)) (by omega) (by omega) rfl rfl (by show (3 : Int) ≤ _; omega) (by show _ ≤ (3 : Int); omega) (fun _ _ => gos_i (by decide) (by decide)) (fun ty495 h496 c497 g498 tc497 lc497 nc497 mc497 ec497 dc497 uc497 => ?_)
  have gac497 : h.1 ≤ c497 := by have h8 := G478.2.1; have h9 := sS479.2.1; omega
  have uq499 := uc497 uq443 (Or.inr (gNo.sub (by decide) pr474))
  have G500 : gSg [1, 2, 3, 4, 5, 6, 7, 8, 9, 10, 11, 12, 13, 14, 15, 16, 17, 18, 19, 20, 21, 22, 23, 24, 25, 26, 27, 28, 29, 30, 31, 32, 33, 34, 35, 36, 37, 38, 39, 40, 41, 42, 200] [x] [8999, 10999, 31999] ty h ty495 h496 := gSg.tr (gSg.ss G478 sS479 (by decide)) g498 (by decide) (by decide) (fun x hx => by cases hx)
  have rw501 := gSg.raw g498 rf480 (fun w => by cases w)
  have rf502 := (rw501.2.2.1.trans kh476)
  have rf503 := (rw501.2.2.2.trans rf481)
  have dd504 := gSg.rawd (ci := 12) (ps := [28, 27, 26, 25, 15, 14, 13, 12, 11, 10, 9, 4, 2]) g498 rf480 (fun w => by cases w) t449 (by decide) dd482
  have t505 : ty495 x = 200 := rw501.1.trans t449
  have t506 : ty495 c3 = 2 := gSg.typ g498 sS479.1 t450 rfl
  have t507 : ty495 c23 = 3 := gSg.typ g498 sS479.1 t451 rfl
  have t508 : ty495 c46 = 4 := gSg.typ g498 sS479.1 t452 rfl
  have t509 : ty495 c72 = 5 := gSg.typ g498 sS479.1 t453 rfl
  have t510 : ty495 c101 = 6 := gSg.typ g498 sS479.1 t454 rfl
  have t511 : ty495 c133 = 7 := gSg.typ g498 sS479.1 t455 rfl
  have t512 : ty495 c168 = 8 := gSg.typ g498 sS479.1 t456 rfl
  have t513 : ty495 c206 = 9 := gSg.typ g498 sS479.1 t457 rfl
  have t514 : ty495 c247 = 10 := gSg.typ g498 sS479.1 t458 rfl
  have t515 : ty495 c291 = 11 := gSg.typ g498 sS479.1 t459 rfl
  have t516 : ty495 c338 = 12 := gSg.typ g498 sS479.1 t460 rfl
  have t517 : ty495 c388 = 13 := gSg.typ g498 sS479.1 t461 rfl
  have t518 : ty495 c441 = 14 := gSg.typ g498 sS479.1 tc441 rfl
  have s519 := gSg.rawat g498 rf480 (fun w => by cases w) t449 (by decide) s483
  have s520 := gSg.rawat g498 rf480 (fun w => by cases w) t449 (by decide) s484
  have s521 := gSg.rawat g498 rf480 (fun w => by cases w) t449 (by decide) s485
  have s522 := gSg.rawat g498 rf480 (fun w => by cases w) t449 (by decide) s486
  have s523 := gSg.rawat g498 rf480 (fun w => by cases w) t449 (by decide) s487
  have s524 := gSg.rawat g498 rf480 (fun w => by cases w) t449 (by decide) s488
  have s525 := gSg.rawat g498 rf480 (fun w => by cases w) t449 (by decide) s489
  have s526 := gSg.rawat g498 rf480 (fun w => by cases w) t449 (by decide) s490
  have s527 := gSg.rawat g498 rf480 (fun w => by cases w) t449 (by decide) s491
  have s528 := gSg.rawat g498 rf480 (fun w => by cases w) t449 (by decide) s492
  have s529 := gSg.rawat g498 rf480 (fun w => by cases w) t449 (by decide) s493
  have s530 := gSg.rawat g498 rf480 (fun w => by cases w) t449 (by decide) s494
  have s531 := gSg.rawat g498 rf480 (fun w => by cases w) t449 (by decide) eh476
  have pr532 : gNo [1, 16, 17, 18, 19, 20, 21, 22, 23, 24, 25, 26, 27, 28, 29, 30, 31, 32, 33, 34, 35, 36, 37, 38, 39, 40, 41, 42] ty495 := gNo.gr g498 (by decide) (gNo.sub (by decide) pr474)
  have sS533 : gSs rT 1027 ty495 [8999, 10999, 31999] h496 h496 := gSs.rf g498.1
  refine gs_rput rfl (by decide) rfl sS533.1 t505 nx rw501.2.1 rf502 rfl (Or.inr rfl) (fun h534 g535 nh534 mh534 kh534 zh534 eh534 fh534 => ?_)
  have G536 : gSg [1, 2, 3, 4, 5, 6, 7, 8, 9, 10, 11, 12, 13, 14, 15, 16, 17, 18, 19, 20, 21, 22, 23, 24, 25, 26, 27, 28, 29, 30, 31, 32, 33, 34, 35, 36, 37, 38, 39, 40, 41, 42, 200] [x] [8999, 10999, 31999] ty h ty495 h534 := gSg.tr (gSg.ss G500 sS533 (by decide)) g535 (by decide) (by decide) (fun x hx => Or.inr hx)
  have sS537 : gSs rT 1027 ty495 [8999, 10999, 31999] h534 h534 := gSs.rf g535.1
  have rf538 := Nat.lt_of_lt_of_eq rw501.2.1 nh534.symm
  have rf539 := zh534.trans rf503
  have dd540 : ∀ k, ¬ k ∈ ([29, 28, 27, 26, 25, 15, 14, 13, 12, 11, 10, 9, 4, 2] : List Nat) → h534.2.2.2.2 x k = defaultValue (gGG.2.1 12 k) := raw_dp fh534 dd504
  have s541 := (fh534 2 (by decide)).trans s519
  have s542 := (fh534 4 (by decide)).trans s520
  have s543 := (fh534 9 (by decide)).trans s521
  have s544 := (fh534 10 (by decide)).trans s522
  have s545 := (fh534 11 (by decide)).trans s523
  have s546 := (fh534 12 (by decide)).trans s524
  have s547 := (fh534 13 (by decide)).trans s525
  have s548 := (fh534 14 (by decide)).trans s526
  have s549 := (fh534 15 (by decide)).trans s527
  have s550 := (fh534 25 (by decide)).trans s528
  have s551 := (fh534 26 (by decide)).trans s529
  have s552 := (fh534 27 (by decide)).trans s530
  have s553 := (fh534 28 (by decide)).trans s531
  refine gz_s 2 (pc' := 120) (L' := [some (.ref x), none, none, none, none]) (S' := [.int (zi 3), .ref x]) rfl ?_
  refine gs_newr 16 rfl (by decide) rfl sS537.1 (Nat.le_of_lt (Nat.lt_of_le_of_lt (gJ.cell sS537.1 t506 rfl).1 (gJ.cell sS537.1 t506 rfl).2.1)) (by omega) (by omega) rfl rfl (by show (3 : Int) ≤ _; omega) (by show _ ≤ (3 : Int); omega) (fun _ _ => gos_i (by decide) (by decide)) (fun ty554 h555 c556 g557 tc556 lc556 nc556 mc556 ec556 dc556 uc556 => ?_)
  have gac556 : h.1 ≤ c556 := by have h8 := G536.2.1; have h9 := sS537.2.1; omega
  have uq558 := uc556 uq499 (Or.inr (gNo.sub (by decide) pr532))
  have G559 : gSg [1, 2, 3, 4, 5, 6, 7, 8, 9, 10, 11, 12, 13, 14, 15, 16, 17, 18, 19, 20, 21, 22, 23, 24, 25, 26, 27, 28, 29, 30, 31, 32, 33, 34, 35, 36, 37, 38, 39, 40, 41, 42, 200] [x] [8999, 10999, 31999] ty h ty554 h555 := gSg.tr (gSg.ss G536 sS537 (by decide)) g557 (by decide) (by decide) (fun x hx => by cases hx)
  have rw560 := gSg.raw g557 rf538 (fun w => by cases w)
  have rf561 := (rw560.2.2.1.trans kh534)
  have rf562 := (rw560.2.2.2.trans rf539)
  have dd563 := gSg.rawd (ci := 12) (ps := [29, 28, 27, 26, 25, 15, 14, 13, 12, 11, 10, 9, 4, 2]) g557 rf538 (fun w => by cases w) t505 (by decide) dd540
  have t564 : ty554 x = 200 := rw560.1.trans t505
  have t565 : ty554 c3 = 2 := gSg.typ g557 sS537.1 t506 rfl
  have t566 : ty554 c23 = 3 := gSg.typ g557 sS537.1 t507 rfl
  have t567 : ty554 c46 = 4 := gSg.typ g557 sS537.1 t508 rfl
  have t568 : ty554 c72 = 5 := gSg.typ g557 sS537.1 t509 rfl
  have t569 : ty554 c101 = 6 := gSg.typ g557 sS537.1 t510 rfl
  have t570 : ty554 c133 = 7 := gSg.typ g557 sS537.1 t511 rfl
  have t571 : ty554 c168 = 8 := gSg.typ g557 sS537.1 t512 rfl
  have t572 : ty554 c206 = 9 := gSg.typ g557 sS537.1 t513 rfl
  have t573 : ty554 c247 = 10 := gSg.typ g557 sS537.1 t514 rfl
  have t574 : ty554 c291 = 11 := gSg.typ g557 sS537.1 t515 rfl
  have t575 : ty554 c338 = 12 := gSg.typ g557 sS537.1 t516 rfl
  have t576 : ty554 c388 = 13 := gSg.typ g557 sS537.1 t517 rfl
  have t577 : ty554 c441 = 14 := gSg.typ g557 sS537.1 t518 rfl
  have t578 : ty554 c497 = 15 := gSg.typ g557 sS537.1 tc497 rfl
  have s579 := gSg.rawat g557 rf538 (fun w => by cases w) t505 (by decide) s541
  have s580 := gSg.rawat g557 rf538 (fun w => by cases w) t505 (by decide) s542
  have s581 := gSg.rawat g557 rf538 (fun w => by cases w) t505 (by decide) s543
  have s582 := gSg.rawat g557 rf538 (fun w => by cases w) t505 (by decide) s544
  have s583 := gSg.rawat g557 rf538 (fun w => by cases w) t505 (by decide) s545
  have s584 := gSg.rawat g557 rf538 (fun w => by cases w) t505 (by decide) s546
  have s585 := gSg.rawat g557 rf538 (fun w => by cases w) t505 (by decide) s547
  have s586 := gSg.rawat g557 rf538 (fun w => by cases w) t505 (by decide) s548
  have s587 := gSg.rawat g557 rf538 (fun w => by cases w) t505 (by decide) s549
  have s588 := gSg.rawat g557 rf538 (fun w => by cases w) t505 (by decide) s550
  have s589 := gSg.rawat g557 rf538 (fun w => by cases w) t505 (by decide) s551
  have s590 := gSg.rawat g557 rf538 (fun w => by cases w) t505 (by decide) s552
  have s591 := gSg.rawat g557 rf538 (fun w => by cases w) t505 (by decide) s553
  have s592 := gSg.rawat g557 rf538 (fun w => by cases w) t505 (by decide) eh534
  have pr593 : gNo [1, 17, 18, 19, 20, 21, 22, 23, 24, 25, 26, 27, 28, 29, 30, 31, 32, 33, 34, 35, 36, 37, 38, 39, 40, 41, 42] ty554 := gNo.gr g557 (by decide) (gNo.sub (by decide) pr532)
  have sS594 : gSs rT 1027 ty554 [8999, 10999, 31999] h555 h555 := gSs.rf g557.1
  refine gs_rput rfl (by decide) rfl sS594.1 t564 nx rw560.2.1 rf561 rfl (Or.inr rfl) (fun h595 g596 nh595 mh595 kh595 zh595 eh595 fh595 => ?_)
  have G597 : gSg [1, 2, 3, 4, 5, 6, 7, 8, 9, 10, 11, 12, 13, 14, 15, 16, 17, 18, 19, 20, 21, 22, 23, 24, 25, 26, 27, 28, 29, 30, 31, 32, 33, 34, 35, 36, 37, 38, 39, 40, 41, 42, 200] [x] [8999, 10999, 31999] ty h ty554 h595 := gSg.tr (gSg.ss G559 sS594 (by decide)) g596 (by decide) (by decide) (fun x hx => Or.inr hx)
  have sS598 : gSs rT 1027 ty554 [8999, 10999, 31999] h595 h595 := gSs.rf g596.1
  have rf599 := Nat.lt_of_lt_of_eq rw560.2.1 nh595.symm
  have rf600 := zh595.trans rf562
  have dd601 : ∀ k, ¬ k ∈ ([30, 29, 28, 27, 26, 25, 15, 14, 13, 12, 11, 10, 9, 4, 2] : List Nat) → h595.2.2.2.2 x k = defaultValue (gGG.2.1 12 k) := raw_dp fh595 dd563
  have s602 := (fh595 2 (by decide)).trans s579
  have s603 := (fh595 4 (by decide)).trans s580
  have s604 := (fh595 9 (by decide)).trans s581
  have s605 := (fh595 10 (by decide)).trans s582
  have s606 := (fh595 11 (by decide)).trans s583
  have s607 := (fh595 12 (by decide)).trans s584
  have s608 := (fh595 13 (by decide)).trans s585
  have s609 := (fh595 14 (by decide)).trans s586
  have s610 := (fh595 15 (by decide)).trans s587
  have s611 := (fh595 25 (by decide)).trans s588
  have s612 := (fh595 26 (by decide)).trans s589
  have s613 := (fh595 27 (by decide)).trans s590
  have s614 := (fh595 28 (by decide)).trans s591
  have s615 := (fh595 29 (by decide)).trans s592
  refine gz_s 2 (pc' := 127) (L' := [some (.ref x), none, none, none, none]) (S' := [.int (zi 3), .ref x]) rfl ?_
  refine gs_newr 17 rfl (by decide) rfl sS598.1 (Nat.le_of_lt (Nat.lt_of_le_of_lt (gJ.cell sS598.1 t565 rfl).1 (gJ.cell sS598.1 t565 rfl).2.1)) (by omega) (by omega) rfl rfl (by show (3 : Int) ≤ _; omega) (by show _ ≤ (3 : Int); omega) (fun _ _ => gos_i (by decide) (by decide)) (fun ty616 h617 c618 g619 tc618 lc618 nc618 mc618 ec618 dc618 uc618 => ?_)
  have gac618 : h.1 ≤ c618 := by have h8 := G597.2.1; have h9 := sS598.2.1; omega
  have uq620 := uc618 uq558 (Or.inr (gNo.sub (by decide) pr593))
  have G621 : gSg [1, 2, 3, 4, 5, 6, 7, 8, 9, 10, 11, 12, 13, 14, 15, 16, 17, 18, 19, 20, 21, 22, 23, 24, 25, 26, 27, 28, 29, 30, 31, 32, 33, 34, 35, 36, 37, 38, 39, 40, 41, 42, 200] [x] [8999, 10999, 31999] ty h ty616 h617 := gSg.tr (gSg.ss G597 sS598 (by decide)) g619 (by decide) (by decide) (fun x hx => by cases hx)
  have rw622 := gSg.raw g619 rf599 (fun w => by cases w)
  have rf623 := (rw622.2.2.1.trans kh595)
  have rf624 := (rw622.2.2.2.trans rf600)
  have dd625 := gSg.rawd (ci := 12) (ps := [30, 29, 28, 27, 26, 25, 15, 14, 13, 12, 11, 10, 9, 4, 2]) g619 rf599 (fun w => by cases w) t564 (by decide) dd601
  have t626 : ty616 x = 200 := rw622.1.trans t564
  have t627 : ty616 c3 = 2 := gSg.typ g619 sS598.1 t565 rfl
  have t628 : ty616 c23 = 3 := gSg.typ g619 sS598.1 t566 rfl
  have t629 : ty616 c46 = 4 := gSg.typ g619 sS598.1 t567 rfl
  have t630 : ty616 c72 = 5 := gSg.typ g619 sS598.1 t568 rfl
  have t631 : ty616 c101 = 6 := gSg.typ g619 sS598.1 t569 rfl
  have t632 : ty616 c133 = 7 := gSg.typ g619 sS598.1 t570 rfl
  have t633 : ty616 c168 = 8 := gSg.typ g619 sS598.1 t571 rfl
  have t634 : ty616 c206 = 9 := gSg.typ g619 sS598.1 t572 rfl
  have t635 : ty616 c247 = 10 := gSg.typ g619 sS598.1 t573 rfl
  have t636 : ty616 c291 = 11 := gSg.typ g619 sS598.1 t574 rfl
  have t637 : ty616 c338 = 12 := gSg.typ g619 sS598.1 t575 rfl
  have t638 : ty616 c388 = 13 := gSg.typ g619 sS598.1 t576 rfl
  have t639 : ty616 c441 = 14 := gSg.typ g619 sS598.1 t577 rfl
  have t640 : ty616 c497 = 15 := gSg.typ g619 sS598.1 t578 rfl
  have t641 : ty616 c556 = 16 := gSg.typ g619 sS598.1 tc556 rfl
  have s642 := gSg.rawat g619 rf599 (fun w => by cases w) t564 (by decide) s602
  have s643 := gSg.rawat g619 rf599 (fun w => by cases w) t564 (by decide) s603
  have s644 := gSg.rawat g619 rf599 (fun w => by cases w) t564 (by decide) s604
  have s645 := gSg.rawat g619 rf599 (fun w => by cases w) t564 (by decide) s605
  have s646 := gSg.rawat g619 rf599 (fun w => by cases w) t564 (by decide) s606
  have s647 := gSg.rawat g619 rf599 (fun w => by cases w) t564 (by decide) s607
  have s648 := gSg.rawat g619 rf599 (fun w => by cases w) t564 (by decide) s608
  have s649 := gSg.rawat g619 rf599 (fun w => by cases w) t564 (by decide) s609
  have s650 := gSg.rawat g619 rf599 (fun w => by cases w) t564 (by decide) s610
  have s651 := gSg.rawat g619 rf599 (fun w => by cases w) t564 (by decide) s611
  have s652 := gSg.rawat g619 rf599 (fun w => by cases w) t564 (by decide) s612
  have s653 := gSg.rawat g619 rf599 (fun w => by cases w) t564 (by decide) s613
  have s654 := gSg.rawat g619 rf599 (fun w => by cases w) t564 (by decide) s614
  have s655 := gSg.rawat g619 rf599 (fun w => by cases w) t564 (by decide) s615
  have s656 := gSg.rawat g619 rf599 (fun w => by cases w) t564 (by decide) eh595
  have pr657 : gNo [1, 18, 19, 20, 21, 22, 23, 24, 25, 26, 27, 28, 29, 30, 31, 32, 33, 34, 35, 36, 37, 38, 39, 40, 41, 42] ty616 := gNo.gr g619 (by decide) (gNo.sub (by decide) pr593)
  have sS658 : gSs rT 1027 ty616 [8999, 10999, 31999] h617 h617 := gSs.rf g619.1
  refine gs_rput rfl (by decide) rfl sS658.1 t626 nx rw622.2.1 rf623 rfl (Or.inr rfl) (fun h659 g660 nh659 mh659 kh659 zh659 eh659 fh659 => ?_)
  have G661 : gSg [1, 2, 3, 4, 5, 6, 7, 8, 9, 10, 11, 12, 13, 14, 15, 16, 17, 18, 19, 20, 21, 22, 23, 24, 25, 26, 27, 28, 29, 30, 31, 32, 33, 34, 35, 36, 37, 38, 39, 40, 41, 42, 200] [x] [8999, 10999, 31999] ty h ty616 h659 := gSg.tr (gSg.ss G621 sS658 (by decide)) g660 (by decide) (by decide) (fun x hx => Or.inr hx)
  have sS662 : gSs rT 1027 ty616 [8999, 10999, 31999] h659 h659 := gSs.rf g660.1
  have rf663 := Nat.lt_of_lt_of_eq rw622.2.1 nh659.symm
  have rf664 := zh659.trans rf624
  have dd665 : ∀ k, ¬ k ∈ ([31, 30, 29, 28, 27, 26, 25, 15, 14, 13, 12, 11, 10, 9, 4, 2] : List Nat) → h659.2.2.2.2 x k = defaultValue (gGG.2.1 12 k) := raw_dp fh659 dd625
  have s666 := (fh659 2 (by decide)).trans s642
  have s667 := (fh659 4 (by decide)).trans s643
  have s668 := (fh659 9 (by decide)).trans s644
  have s669 := (fh659 10 (by decide)).trans s645
  have s670 := (fh659 11 (by decide)).trans s646
  have s671 := (fh659 12 (by decide)).trans s647
  have s672 := (fh659 13 (by decide)).trans s648
  have s673 := (fh659 14 (by decide)).trans s649
  have s674 := (fh659 15 (by decide)).trans s650
  have s675 := (fh659 25 (by decide)).trans s651
  have s676 := (fh659 26 (by decide)).trans s652
  have s677 := (fh659 27 (by decide)).trans s653
  have s678 := (fh659 28 (by decide)).trans s654
  have s679 := (fh659 29 (by decide)).trans s655
  have s680 := (fh659 30 (by decide)).trans s656
  refine gz_s 2 (pc' := 134) (L' := [some (.ref x), none, none, none, none]) (S' := [.int (zi 3), .ref x]) rfl ?_
  refine gs_newr 18 rfl (by decide) rfl sS662.1 (Nat.le_of_lt (Nat.lt_of_le_of_lt (gJ.cell sS662.1 t627 rfl).1 (gJ.cell sS662.1 t627 rfl).2.1)) (by omega) (by omega) rfl rfl (by show (3 : Int) ≤ _; omega) (by show _ ≤ (3 : Int); omega) (fun _ _ => gos_i (by decide) (by decide)) (fun ty681 h682 c683 g684 tc683 lc683 nc683 mc683 ec683 dc683 uc683 => ?_)
  have gac683 : h.1 ≤ c683 := by have h8 := G661.2.1; have h9 := sS662.2.1; omega
  have uq685 := uc683 uq620 (Or.inr (gNo.sub (by decide) pr657))
  have G686 : gSg [1, 2, 3, 4, 5, 6, 7, 8, 9, 10, 11, 12, 13, 14, 15, 16, 17, 18, 19, 20, 21, 22, 23, 24, 25, 26, 27, 28, 29, 30, 31, 32, 33, 34, 35, 36, 37, 38, 39, 40, 41, 42, 200] [x] [8999, 10999, 31999] ty h ty681 h682 := gSg.tr (gSg.ss G661 sS662 (by decide)) g684 (by decide) (by decide) (fun x hx => by cases hx)
  have rw687 := gSg.raw g684 rf663 (fun w => by cases w)
  have rf688 := (rw687.2.2.1.trans kh659)
  have rf689 := (rw687.2.2.2.trans rf664)
  have dd690 := gSg.rawd (ci := 12) (ps := [31, 30, 29, 28, 27, 26, 25, 15, 14, 13, 12, 11, 10, 9, 4, 2]) g684 rf663 (fun w => by cases w) t626 (by decide) dd665
  have t691 : ty681 x = 200 := rw687.1.trans t626
  have t692 : ty681 c3 = 2 := gSg.typ g684 sS662.1 t627 rfl
  have t693 : ty681 c23 = 3 := gSg.typ g684 sS662.1 t628 rfl
  have t694 : ty681 c46 = 4 := gSg.typ g684 sS662.1 t629 rfl
  have t695 : ty681 c72 = 5 := gSg.typ g684 sS662.1 t630 rfl
  have t696 : ty681 c101 = 6 := gSg.typ g684 sS662.1 t631 rfl
  have t697 : ty681 c133 = 7 := gSg.typ g684 sS662.1 t632 rfl
  have t698 : ty681 c168 = 8 := gSg.typ g684 sS662.1 t633 rfl
  have t699 : ty681 c206 = 9 := gSg.typ g684 sS662.1 t634 rfl
  have t700 : ty681 c247 = 10 := gSg.typ g684 sS662.1 t635 rfl
  have t701 : ty681 c291 = 11 := gSg.typ g684 sS662.1 t636 rfl
  have t702 : ty681 c338 = 12 := gSg.typ g684 sS662.1 t637 rfl
  have t703 : ty681 c388 = 13 := gSg.typ g684 sS662.1 t638 rfl
  have t704 : ty681 c441 = 14 := gSg.typ g684 sS662.1 t639 rfl
  have t705 : ty681 c497 = 15 := gSg.typ g684 sS662.1 t640 rfl
  have t706 : ty681 c556 = 16 := gSg.typ g684 sS662.1 t641 rfl
  have t707 : ty681 c618 = 17 := gSg.typ g684 sS662.1 tc618 rfl
  have s708 := gSg.rawat g684 rf663 (fun w => by cases w) t626 (by decide) s666
  have s709 := gSg.rawat g684 rf663 (fun w => by cases w) t626 (by decide) s667
  have s710 := gSg.rawat g684 rf663 (fun w => by cases w) t626 (by decide) s668
  have s711 := gSg.rawat g684 rf663 (fun w => by cases w) t626 (by decide) s669
  have s712 := gSg.rawat g684 rf663 (fun w => by cases w) t626 (by decide) s670
  have s713 := gSg.rawat g684 rf663 (fun w => by cases w) t626 (by decide) s671
  have s714 := gSg.rawat g684 rf663 (fun w => by cases w) t626 (by decide) s672
  have s715 := gSg.rawat g684 rf663 (fun w => by cases w) t626 (by decide) s673
  have s716 := gSg.rawat g684 rf663 (fun w => by cases w) t626 (by decide) s674
  have s717 := gSg.rawat g684 rf663 (fun w => by cases w) t626 (by decide) s675
  have s718 := gSg.rawat g684 rf663 (fun w => by cases w) t626 (by decide) s676
  have s719 := gSg.rawat g684 rf663 (fun w => by cases w) t626 (by decide) s677
  have s720 := gSg.rawat g684 rf663 (fun w => by cases w) t626 (by decide) s678
  have s721 := gSg.rawat g684 rf663 (fun w => by cases w) t626 (by decide) s679
  have s722 := gSg.rawat g684 rf663 (fun w => by cases w) t626 (by decide) s680
  have s723 := gSg.rawat g684 rf663 (fun w => by cases w) t626 (by decide) eh659
  have pr724 : gNo [1, 19, 20, 21, 22, 23, 24, 25, 26, 27, 28, 29, 30, 31, 32, 33, 34, 35, 36, 37, 38, 39, 40, 41, 42] ty681 := gNo.gr g684 (by decide) (gNo.sub (by decide) pr657)
  have sS725 : gSs rT 1027 ty681 [8999, 10999, 31999] h682 h682 := gSs.rf g684.1
  refine gs_rput rfl (by decide) rfl sS725.1 t691 nx rw687.2.1 rf688 rfl (Or.inr rfl) (fun h726 g727 nh726 mh726 kh726 zh726 eh726 fh726 => ?_)
  have G728 : gSg [1, 2, 3, 4, 5, 6, 7, 8, 9, 10, 11, 12, 13, 14, 15, 16, 17, 18, 19, 20, 21, 22, 23, 24, 25, 26, 27, 28, 29, 30, 31, 32, 33, 34, 35, 36, 37, 38, 39, 40, 41, 42, 200] [x] [8999, 10999, 31999] ty h ty681 h726 := gSg.tr (gSg.ss G686 sS725 (by decide)) g727 (by decide) (by decide) (fun x hx => Or.inr hx)
  have sS729 : gSs rT 1027 ty681 [8999, 10999, 31999] h726 h726 := gSs.rf g727.1
  have rf730 := Nat.lt_of_lt_of_eq rw687.2.1 nh726.symm
  have rf731 := zh726.trans rf689
  have dd732 : ∀ k, ¬ k ∈ ([32, 31, 30, 29, 28, 27, 26, 25, 15, 14, 13, 12, 11, 10, 9, 4, 2] : List Nat) → h726.2.2.2.2 x k = defaultValue (gGG.2.1 12 k) := raw_dp fh726 dd690
  have s733 := (fh726 2 (by decide)).trans s708
  have s734 := (fh726 4 (by decide)).trans s709
  have s735 := (fh726 9 (by decide)).trans s710
  have s736 := (fh726 10 (by decide)).trans s711
  have s737 := (fh726 11 (by decide)).trans s712
  have s738 := (fh726 12 (by decide)).trans s713
  have s739 := (fh726 13 (by decide)).trans s714
  have s740 := (fh726 14 (by decide)).trans s715
  have s741 := (fh726 15 (by decide)).trans s716
  have s742 := (fh726 25 (by decide)).trans s717
  have s743 := (fh726 26 (by decide)).trans s718
  have s744 := (fh726 27 (by decide)).trans s719
  have s745 := (fh726 28 (by decide)).trans s720
  have s746 := (fh726 29 (by decide)).trans s721
  have s747 := (fh726 30 (by decide)).trans s722
  have s748 := (fh726 31 (by decide)).trans s723
  refine gz_s 2 (pc' := 141) (L' := [some (.ref x), none, none, none, none]) (S' := [.int (zi 3), .ref x]) rfl ?_
  refine gs_newr 19 rfl (by decide) rfl sS729.1 (Nat.le_of_lt (Nat.lt_of_le_of_lt (gJ.cell sS729.1 t692 rfl).1 (gJ.cell sS729.1 t692 rfl).2.1)) (by omega) (by omega) rfl rfl (by show (3 : Int) ≤ _; omega) (by show _ ≤ (3 : Int); omega) (fun _ _ => gos_i (by decide) (by decide)) (fun ty749 h750 c751 g752 tc751 lc751 nc751 mc751 ec751 dc751 uc751 => ?_)
  have gac751 : h.1 ≤ c751 := by have h8 := G728.2.1; have h9 := sS729.2.1; omega
  have uq753 := uc751 uq685 (Or.inr (gNo.sub (by decide) pr724))
  have G754 : gSg [1, 2, 3, 4, 5, 6, 7, 8, 9, 10, 11, 12, 13, 14, 15, 16, 17, 18, 19, 20, 21, 22, 23, 24, 25, 26, 27, 28, 29, 30, 31, 32, 33, 34, 35, 36, 37, 38, 39, 40, 41, 42, 200] [x] [8999, 10999, 31999] ty h ty749 h750 := gSg.tr (gSg.ss G728 sS729 (by decide)) g752 (by decide) (by decide) (fun x hx => by cases hx)
  have rw755 := gSg.raw g752 rf730 (fun w => by cases w)
  have rf756 := (rw755.2.2.1.trans kh726)
  have rf757 := (rw755.2.2.2.trans rf731)
  have dd758 := gSg.rawd (ci := 12) (ps := [32, 31, 30, 29, 28, 27, 26, 25, 15, 14, 13, 12, 11, 10, 9, 4, 2]) g752 rf730 (fun w => by cases w) t691 (by decide) dd732
  have t759 : ty749 x = 200 := rw755.1.trans t691
  have t760 : ty749 c3 = 2 := gSg.typ g752 sS729.1 t692 rfl
  have t761 : ty749 c23 = 3 := gSg.typ g752 sS729.1 t693 rfl
  have t762 : ty749 c46 = 4 := gSg.typ g752 sS729.1 t694 rfl
  have t763 : ty749 c72 = 5 := gSg.typ g752 sS729.1 t695 rfl
  have t764 : ty749 c101 = 6 := gSg.typ g752 sS729.1 t696 rfl
  have t765 : ty749 c133 = 7 := gSg.typ g752 sS729.1 t697 rfl
  have t766 : ty749 c168 = 8 := gSg.typ g752 sS729.1 t698 rfl
  have t767 : ty749 c206 = 9 := gSg.typ g752 sS729.1 t699 rfl
  have t768 : ty749 c247 = 10 := gSg.typ g752 sS729.1 t700 rfl
  have t769 : ty749 c291 = 11 := gSg.typ g752 sS729.1 t701 rfl
  have t770 : ty749 c338 = 12 := gSg.typ g752 sS729.1 t702 rfl
  have t771 : ty749 c388 = 13 := gSg.typ g752 sS729.1 t703 rfl
  have t772 : ty749 c441 = 14 := gSg.typ g752 sS729.1 t704 rfl
  have t773 : ty749 c497 = 15 := gSg.typ g752 sS729.1 t705 rfl
  have t774 : ty749 c556 = 16 := gSg.typ g752 sS729.1 t706 rfl
  have t775 : ty749 c618 = 17 := gSg.typ g752 sS729.1 t707 rfl
  have t776 : ty749 c683 = 18 := gSg.typ g752 sS729.1 tc683 rfl
  have s777 := gSg.rawat g752 rf730 (fun w => by cases w) t691 (by decide) s733
  have s778 := gSg.rawat g752 rf730 (fun w => by cases w) t691 (by decide) s734
  have s779 := gSg.rawat g752 rf730 (fun w => by cases w) t691 (by decide) s735
  have s780 := gSg.rawat g752 rf730 (fun w => by cases w) t691 (by decide) s736
  have s781 := gSg.rawat g752 rf730 (fun w => by cases w) t691 (by decide) s737
  have s782 := gSg.rawat g752 rf730 (fun w => by cases w) t691 (by decide) s738
  have s783 := gSg.rawat g752 rf730 (fun w => by cases w) t691 (by decide) s739
  have s784 := gSg.rawat g752 rf730 (fun w => by cases w) t691 (by decide) s740
  have s785 := gSg.rawat g752 rf730 (fun w => by cases w) t691 (by decide) s741
  have s786 := gSg.rawat g752 rf730 (fun w => by cases w) t691 (by decide) s742
  have s787 := gSg.rawat g752 rf730 (fun w => by cases w) t691 (by decide) s743
  have s788 := gSg.rawat g752 rf730 (fun w => by cases w) t691 (by decide) s744
  have s789 := gSg.rawat g752 rf730 (fun w => by cases w) t691 (by decide) s745
  have s790 := gSg.rawat g752 rf730 (fun w => by cases w) t691 (by decide) s746
  have s791 := gSg.rawat g752 rf730 (fun w => by cases w) t691 (by decide) s747
  have s792 := gSg.rawat g752 rf730 (fun w => by cases w) t691 (by decide) s748
  have s793 := gSg.rawat g752 rf730 (fun w => by cases w) t691 (by decide) eh726
  have pr794 : gNo [1, 20, 21, 22, 23, 24, 25, 26, 27, 28, 29, 30, 31, 32, 33, 34, 35, 36, 37, 38, 39, 40, 41, 42] ty749 := gNo.gr g752 (by decide) (gNo.sub (by decide) pr724)
  have sS795 : gSs rT 1027 ty749 [8999, 10999, 31999] h750 h750 := gSs.rf g752.1
  refine gs_rput rfl (by decide) rfl sS795.1 t759 nx rw755.2.1 rf756 rfl (Or.inr rfl) (fun h796 g797 nh796 mh796 kh796 zh796 eh796 fh796 => ?_)
  have G798 : gSg [1, 2, 3, 4, 5, 6, 7, 8, 9, 10, 11, 12, 13, 14, 15, 16, 17, 18, 19, 20, 21, 22, 23, 24, 25, 26, 27, 28, 29, 30, 31, 32, 33, 34, 35, 36, 37, 38, 39, 40, 41, 42, 200] [x] [8999, 10999, 31999] ty h ty749 h796 := gSg.tr (gSg.ss G754 sS795 (by decide)) g797 (by decide) (by decide) (fun x hx => Or.inr hx)
  have sS799 : gSs rT 1027 ty749 [8999, 10999, 31999] h796 h796 := gSs.rf g797.1
  have rf800 := Nat.lt_of_lt_of_eq rw755.2.1 nh796.symm
  have rf801 := zh796.trans rf757
  have dd802 : ∀ k, ¬ k ∈ ([33, 32, 31, 30, 29, 28, 27, 26, 25, 15, 14, 13, 12, 11, 10, 9, 4, 2] : List Nat) → h796.2.2.2.2 x k = defaultValue (gGG.2.1 12 k) := raw_dp fh796 dd758
  have s803 := (fh796 2 (by decide)).trans s777
  have s804 := (fh796 4 (by decide)).trans s778
  have s805 := (fh796 9 (by decide)).trans s779
  have s806 := (fh796 10 (by decide)).trans s780
  have s807 := (fh796 11 (by decide)).trans s781
  have s808 := (fh796 12 (by decide)).trans s782
  have s809 := (fh796 13 (by decide)).trans s783
  have s810 := (fh796 14 (by decide)).trans s784
  have s811 := (fh796 15 (by decide)).trans s785
  have s812 := (fh796 25 (by decide)).trans s786
  have s813 := (fh796 26 (by decide)).trans s787
  have s814 := (fh796 27 (by decide)).trans s788
  have s815 := (fh796 28 (by decide)).trans s789
  have s816 := (fh796 29 (by decide)).trans s790
  have s817 := (fh796 30 (by decide)).trans s791
  have s818 := (fh796 31 (by decide)).trans s792
  have s819 := (fh796 32 (by decide)).trans s793
  refine gz_s 2 (pc' := 148) (L' := [some (.ref x), none, none, none, none]) (S' := [.int (zi 3), .ref x]) rfl ?_
  refine gs_newr 20 rfl (by decide) rfl sS799.1 (Nat.le_of_lt (Nat.lt_of_le_of_lt (gJ.cell sS799.1 t760 rfl).1 (gJ.cell sS799.1 t760 rfl).2.1)) (by omega) (by omega) rfl rfl (by show (3 : Int) ≤ _; omega) (by show _ ≤ (3 : Int); omega) (fun _ _ => gos_i (by decide) (by decide)) (fun ty820 h821 c822 g823 tc822 lc822 nc822 mc822 ec822 dc822 uc822 => ?_)
  have gac822 : h.1 ≤ c822 := by have h8 := G798.2.1; have h9 := sS799.2.1; omega
  have uq824 := uc822 uq753 (Or.inr (gNo.sub (by decide) pr794))
  have G825 : gSg [1, 2, 3, 4, 5, 6, 7, 8, 9, 10, 11, 12, 13, 14, 15, 16, 17, 18, 19, 20, 21, 22, 23, 24, 25, 26, 27, 28, 29, 30, 31, 32, 33, 34, 35, 36, 37, 38, 39, 40, 41, 42, 200] [x] [8999, 10999, 31999] ty h ty820 h821 := gSg.tr (gSg.ss G798 sS799 (by decide)) g823 (by decide) (by decide) (fun x hx => by cases hx)
  have rw826 := gSg.raw g823 rf800 (fun w => by cases w)
  have rf827 := (rw826.2.2.1.trans kh796)
  have rf828 := (rw826.2.2.2.trans rf801)
  have dd829 := gSg.rawd (ci := 12) (ps := [33, 32, 31, 30, 29, 28, 27, 26, 25, 15, 14, 13, 12, 11, 10, 9, 4, 2]) g823 rf800 (fun w => by cases w) t759 (by decide) dd802
  have t830 : ty820 x = 200 := rw826.1.trans t759
  have t831 : ty820 c3 = 2 := gSg.typ g823 sS799.1 t760 rfl
  have t832 : ty820 c23 = 3 := gSg.typ g823 sS799.1 t761 rfl
  have t833 : ty820 c46 = 4 := gSg.typ g823 sS799.1 t762 rfl
  have t834 : ty820 c72 = 5 := gSg.typ g823 sS799.1 t763 rfl
  have t835 : ty820 c101 = 6 := gSg.typ g823 sS799.1 t764 rfl
  have t836 : ty820 c133 = 7 := gSg.typ g823 sS799.1 t765 rfl
  have t837 : ty820 c168 = 8 := gSg.typ g823 sS799.1 t766 rfl
  have t838 : ty820 c206 = 9 := gSg.typ g823 sS799.1 t767 rfl
  have t839 : ty820 c247 = 10 := gSg.typ g823 sS799.1 t768 rfl
  have t840 : ty820 c291 = 11 := gSg.typ g823 sS799.1 t769 rfl
  have t841 : ty820 c338 = 12 := gSg.typ g823 sS799.1 t770 rfl
  have t842 : ty820 c388 = 13 := gSg.typ g823 sS799.1 t771 rfl
  have t843 : ty820 c441 = 14 := gSg.typ g823 sS799.1 t772 rfl
  have t844 : ty820 c497 = 15 := gSg.typ g823 sS799.1 t773 rfl
  have t845 : ty820 c556 = 16 := gSg.typ g823 sS799.1 t774 rfl
  have t846 : ty820 c618 = 17 := gSg.typ g823 sS799.1 t775 rfl
  have t847 : ty820 c683 = 18 := gSg.typ g823 sS799.1 t776 rfl
  have t848 : ty820 c751 = 19 := gSg.typ g823 sS799.1 tc751 rfl
  have s849 := gSg.rawat g823 rf800 (fun w => by cases w) t759 (by decide) s803
  have s850 := gSg.rawat g823 rf800 (fun w => by cases w) t759 (by decide) s804
  have s851 := gSg.rawat g823 rf800 (fun w => by cases w) t759 (by decide) s805
  have s852 := gSg.rawat g823 rf800 (fun w => by cases w) t759 (by decide) s806
  have s853 := gSg.rawat g823 rf800 (fun w => by cases w) t759 (by decide) s807
  have s854 := gSg.rawat g823 rf800 (fun w => by cases w) t759 (by decide) s808
  have s855 := gSg.rawat g823 rf800 (fun w => by cases w) t759 (by decide) s809
  have s856 := gSg.rawat g823 rf800 (fun w => by cases w) t759 (by decide) s810
  have s857 := gSg.rawat g823 rf800 (fun w => by cases w) t759 (by decide) s811
  have s858 := gSg.rawat g823 rf800 (fun w => by cases w) t759 (by decide) s812
  have s859 := gSg.rawat g823 rf800 (fun w => by cases w) t759 (by decide) s813
  have s860 := gSg.rawat g823 rf800 (fun w => by cases w) t759 (by decide) s814
  have s861 := gSg.rawat g823 rf800 (fun w => by cases w) t759 (by decide) s815
  have s862 := gSg.rawat g823 rf800 (fun w => by cases w) t759 (by decide) s816
  have s863 := gSg.rawat g823 rf800 (fun w => by cases w) t759 (by decide) s817
  have s864 := gSg.rawat g823 rf800 (fun w => by cases w) t759 (by decide) s818
  have s865 := gSg.rawat g823 rf800 (fun w => by cases w) t759 (by decide) s819
  have s866 := gSg.rawat g823 rf800 (fun w => by cases w) t759 (by decide) eh796
  have pr867 : gNo [1, 21, 22, 23, 24, 25, 26, 27, 28, 29, 30, 31, 32, 33, 34, 35, 36, 37, 38, 39, 40, 41, 42] ty820 := gNo.gr g823 (by decide) (gNo.sub (by decide) pr794)
  have sS868 : gSs rT 1027 ty820 [8999, 10999, 31999] h821 h821 := gSs.rf g823.1
  refine gs_rput rfl (by decide) rfl sS868.1 t830 nx rw826.2.1 rf827 rfl (Or.inr rfl) (fun h869 g870 nh869 mh869 kh869 zh869 eh869 fh869 => ?_)
  have G871 : gSg [1, 2, 3, 4, 5, 6, 7, 8, 9, 10, 11, 12, 13, 14, 15, 16, 17, 18, 19, 20, 21, 22, 23, 24, 25, 26, 27, 28, 29, 30, 31, 32, 33, 34, 35, 36, 37, 38, 39, 40, 41, 42, 200] [x] [8999, 10999, 31999] ty h ty820 h869 := gSg.tr (gSg.ss G825 sS868 (by decide)) g870 (by decide) (by decide) (fun x hx => Or.inr hx)
  have sS872 : gSs rT 1027 ty820 [8999, 10999, 31999] h869 h869 := gSs.rf g870.1
  have rf873 := Nat.lt_of_lt_of_eq rw826.2.1 nh869.symm
  have rf874 := zh869.trans rf828
  have dd875 : ∀ k, ¬ k ∈ ([34, 33, 32, 31, 30, 29, 28, 27, 26, 25, 15, 14, 13, 12, 11, 10, 9, 4, 2] : List Nat) → h869.2.2.2.2 x k = defaultValue (gGG.2.1 12 k) := raw_dp fh869 dd829
  have s876 := (fh869 2 (by decide)).trans s849
  have s877 := (fh869 4 (by decide)).trans s850
  have s878 := (fh869 9 (by decide)).trans s851
  have s879 := (fh869 10 (by decide)).trans s852
  have s880 := (fh869 11 (by decide)).trans s853
  have s881 := (fh869 12 (by decide)).trans s854
  have s882 := (fh869 13 (by decide)).trans s855
  have s883 := (fh869 14 (by decide)).trans s856
  have s884 := (fh869 15 (by decide)).trans s857
  have s885 := (fh869 25 (by decide)).trans s858
  have s886 := (fh869 26 (by decide)).trans s859
  have s887 := (fh869 27 (by decide)).trans s860
  have s888 := (fh869 28 (by decide)).trans s861
  have s889 := (fh869 29 (by decide)).trans s862
  have s890 := (fh869 30 (by decide)).trans s863
  have s891 := (fh869 31 (by decide)).trans s864
  have s892 := (fh869 32 (by decide)).trans s865
  have s893 := (fh869 33 (by decide)).trans s866
  refine gz_s 2 (pc' := 155) (L' := [some (.ref x), none, none, none, none]) (S' := [.int (zi 3), .ref x]) rfl ?_
  refine gs_newr 21 rfl (by decide) rfl sS872.1 (Nat.le_of_lt (Nat.lt_of_le_of_lt (gJ.cell sS872.1 t831 rfl).1 (gJ.cell sS872.1 t831 rfl).2.1)) (by omega) (by omega) rfl rfl (by show (3 : Int) ≤ _; omega) (by show _ ≤ (3 : Int); omega) (fun _ _ => gos_i (by decide) (by decide)) (fun ty894 h895 c896 g897 tc896 lc896 nc896 mc896 ec896 dc896 uc896 => ?_)
  have gac896 : h.1 ≤ c896 := by have h8 := G871.2.1; have h9 := sS872.2.1; omega
  have uq898 := uc896 uq824 (Or.inr (gNo.sub (by decide) pr867))
  have G899 : gSg [1, 2, 3, 4, 5, 6, 7, 8, 9, 10, 11, 12, 13, 14, 15, 16, 17, 18, 19, 20, 21, 22, 23, 24, 25, 26, 27, 28, 29, 30, 31, 32, 33, 34, 35, 36, 37, 38, 39, 40, 41, 42, 200] [x] [8999, 10999, 31999] ty h ty894 h895 := gSg.tr (gSg.ss G871 sS872 (by decide)) g897 (by decide) (by decide) (fun x hx => by cases hx)
  have rw900 := gSg.raw g897 rf873 (fun w => by cases w)
  have rf901 := (rw900.2.2.1.trans kh869)
  have rf902 := (rw900.2.2.2.trans rf874)
  have dd903 := gSg.rawd (ci := 12) (ps := [34, 33, 32, 31, 30, 29, 28, 27, 26, 25, 15, 14, 13, 12, 11, 10, 9, 4, 2]) g897 rf873 (fun w => by cases w) t830 (by decide) dd875
  have t904 : ty894 x = 200 := rw900.1.trans t830
  have t905 : ty894 c3 = 2 := gSg.typ g897 sS872.1 t831 rfl
  have t906 : ty894 c23 = 3 := gSg.typ g897 sS872.1 t832 rfl
  have t907 : ty894 c46 = 4 := gSg.typ g897 sS872.1 t833 rfl
  have t908 : ty894 c72 = 5 := gSg.typ g897 sS872.1 t834 rfl
  have t909 : ty894 c101 = 6 := gSg.typ g897 sS872.1 t835 rfl
  have t910 : ty894 c133 = 7 := gSg.typ g897 sS872.1 t836 rfl
  have t911 : ty894 c168 = 8 := gSg.typ g897 sS872.1 t837 rfl
  have t912 : ty894 c206 = 9 := gSg.typ g897 sS872.1 t838 rfl
  have t913 : ty894 c247 = 10 := gSg.typ g897 sS872.1 t839 rfl
  have t914 : ty894 c291 = 11 := gSg.typ g897 sS872.1 t840 rfl
  have t915 : ty894 c338 = 12 := gSg.typ g897 sS872.1 t841 rfl
  have t916 : ty894 c388 = 13 := gSg.typ g897 sS872.1 t842 rfl
  have t917 : ty894 c441 = 14 := gSg.typ g897 sS872.1 t843 rfl
  have t918 : ty894 c497 = 15 := gSg.typ g897 sS872.1 t844 rfl
  have t919 : ty894 c556 = 16 := gSg.typ g897 sS872.1 t845 rfl
  have t920 : ty894 c618 = 17 := gSg.typ g897 sS872.1 t846 rfl
  have t921 : ty894 c683 = 18 := gSg.typ g897 sS872.1 t847 rfl
  have t922 : ty894 c751 = 19 := gSg.typ g897 sS872.1 t848 rfl
  have t923 : ty894 c822 = 20 := gSg.typ g897 sS872.1 tc822 rfl
  have s924 := gSg.rawat g897 rf873 (fun w => by cases w) t830 (by decide) s876
  have s925 := gSg.rawat g897 rf873 (fun w => by cases w) t830 (by decide) s877
  have s926 := gSg.rawat g897 rf873 (fun w => by cases w) t830 (by decide) s878
  have s927 := gSg.rawat g897 rf873 (fun w => by cases w) t830 (by decide) s879
  have s928 := gSg.rawat g897 rf873 (fun w => by cases w) t830 (by decide) s880
  have s929 := gSg.rawat g897 rf873 (fun w => by cases w) t830 (by decide) s881
  have s930 := gSg.rawat g897 rf873 (fun w => by cases w) t830 (by decide) s882
  have s931 := gSg.rawat g897 rf873 (fun w => by cases w) t830 (by decide) s883
  have s932 := gSg.rawat g897 rf873 (fun w => by cases w) t830 (by decide) s884
  have s933 := gSg.rawat g897 rf873 (fun w => by cases w) t830 (by decide) s885
  have s934 := gSg.rawat g897 rf873 (fun w => by cases w) t830 (by decide) s886
  have s935 := gSg.rawat g897 rf873 (fun w => by cases w) t830 (by decide) s887
  have s936 := gSg.rawat g897 rf873 (fun w => by cases w) t830 (by decide) s888
  have s937 := gSg.rawat g897 rf873 (fun w => by cases w) t830 (by decide) s889
  have s938 := gSg.rawat g897 rf873 (fun w => by cases w) t830 (by decide) s890
  have s939 := gSg.rawat g897 rf873 (fun w => by cases w) t830 (by decide) s891
  have s940 := gSg.rawat g897 rf873 (fun w => by cases w) t830 (by decide) s892
  have s941 := gSg.rawat g897 rf873 (fun w => by cases w) t830 (by decide) s893
  have s942 := gSg.rawat g897 rf873 (fun w => by cases w) t830 (by decide) eh869
  have pr943 : gNo [1, 22, 23, 24, 25, 26, 27, 28, 29, 30, 31, 32, 33, 34, 35, 36, 37, 38, 39, 40, 41, 42] ty894 := gNo.gr g897 (by decide) (gNo.sub (by decide) pr867)
  have sS944 : gSs rT 1027 ty894 [8999, 10999, 31999] h895 h895 := gSs.rf g897.1
  refine gs_rput rfl (by decide) rfl sS944.1 t904 nx rw900.2.1 rf901 rfl (Or.inr rfl) (fun h945 g946 nh945 mh945 kh945 zh945 eh945 fh945 => ?_)
  have G947 : gSg [1, 2, 3, 4, 5, 6, 7, 8, 9, 10, 11, 12, 13, 14, 15, 16, 17, 18, 19, 20, 21, 22, 23, 24, 25, 26, 27, 28, 29, 30, 31, 32, 33, 34, 35, 36, 37, 38, 39, 40, 41, 42, 200] [x] [8999, 10999, 31999] ty h ty894 h945 := gSg.tr (gSg.ss G899 sS944 (by decide)) g946 (by decide) (by decide) (fun x hx => Or.inr hx)
  have sS948 : gSs rT 1027 ty894 [8999, 10999, 31999] h945 h945 := gSs.rf g946.1
  have rf949 := Nat.lt_of_lt_of_eq rw900.2.1 nh945.symm
  have rf950 := zh945.trans rf902
  have dd951 : ∀ k, ¬ k ∈ ([35, 34, 33, 32, 31, 30, 29, 28, 27, 26, 25, 15, 14, 13, 12, 11, 10, 9, 4, 2] : List Nat) → h945.2.2.2.2 x k = defaultValue (gGG.2.1 12 k) := raw_dp fh945 dd903
  have s952 := (fh945 2 (by decide)).trans s924
  have s953 := (fh945 4 (by decide)).trans s925
  have s954 := (fh945 9 (by decide)).trans s926
  have s955 := (fh945 10 (by decide)).trans s927
  have s956 := (fh945 11 (by decide)).trans s928
  have s957 := (fh945 12 (by decide)).trans s929
  have s958 := (fh945 13 (by decide)).trans s930
  have s959 := (fh945 14 (by decide)).trans s931
  have s960 := (fh945 15 (by decide)).trans s932
  have s961 := (fh945 25 (by decide)).trans s933
  have s962 := (fh945 26 (by decide)).trans s934
  have s963 := (fh945 27 (by decide)).trans s935
  have s964 := (fh945 28 (by decide)).trans s936
  have s965 := (fh945 29 (by decide)).trans s937
  have s966 := (fh945 30 (by decide)).trans s938
  have s967 := (fh945 31 (by decide)).trans s939
  have s968 := (fh945 32 (by decide)).trans s940
  have s969 := (fh945 33 (by decide)).trans s941
  have s970 := (fh945 34 (by decide)).trans s942
  refine gz_s 2 (pc' := 162) (L' := [some (.ref x), none, none, none, none]) (S' := [.int (zi 3), .ref x]) rfl ?_
  refine gs_newr 22 rfl (by decide) rfl sS948.1 (Nat.le_of_lt (Nat.lt_of_le_of_lt (gJ.cell sS948.1 t905 rfl).1 (gJ.cell sS948.1 t905 rfl).2.1)) (by omega) (by omega) rfl rfl (by show (3 : Int) ≤ _; omega) (by show _ ≤ (3 : Int); omega) (fun _ _ => gos_i (by decide) (by decide)) (fun ty971 h972 c973 g974 tc973 lc973 nc973 mc973 ec973 dc973 uc973 => ?_)
  have gac973 : h.1 ≤ c973 := by have h8 := G947.2.1; have h9 := sS948.2.1; omega
  have uq975 := uc973 uq898 (Or.inr (gNo.sub (by decide) pr943))
  have G976 : gSg [1, 2, 3, 4, 5, 6, 7, 8, 9, 10, 11, 12, 13, 14, 15, 16, 17, 18, 19, 20, 21, 22, 23, 24, 25, 26, 27, 28, 29, 30, 31, 32, 33, 34, 35, 36, 37, 38, 39, 40, 41, 42, 200] [x] [8999, 10999, 31999] ty h ty971 h972 := gSg.tr (gSg.ss G947 sS948 (by decide)) g974 (by decide) (by decide) (fun x hx => by cases hx)
  have rw977 := gSg.raw g974 rf949 (fun w => by cases w)
  have rf978 := (rw977.2.2.1.trans kh945)
  have rf979 := (rw977.2.2.2.trans rf950)
  have dd980 := gSg.rawd (ci := 12) (ps := [35, 34, 33, 32, 31, 30, 29, 28, 27, 26, 25, 15, 14, 13, 12, 11, 10, 9, 4, 2]) g974 rf949 (fun w => by cases w) t904 (by decide) dd951
  have t981 : ty971 x = 200 := rw977.1.trans t904
  have t982 : ty971 c3 = 2 := gSg.typ g974 sS948.1 t905 rfl
  have t983 : ty971 c23 = 3 := gSg.typ g974 sS948.1 t906 rfl
  have t984 : ty971 c46 = 4 := gSg.typ g974 sS948.1 t907 rfl
  have t985 : ty971 c72 = 5 := gSg.typ g974 sS948.1 t908 rfl
  have t986 : ty971 c101 = 6 := gSg.typ g974 sS948.1 t909 rfl
  have t987 : ty971 c133 = 7 := gSg.typ g974 sS948.1 t910 rfl
  have t988 : ty971 c168 = 8 := gSg.typ g974 sS948.1 t911 rfl
  have t989 : ty971 c206 = 9 := gSg.typ g974 sS948.1 t912 rfl
  have t990 : ty971 c247 = 10 := gSg.typ g974 sS948.1 t913 rfl
  have t991 : ty971 c291 = 11 := gSg.typ g974 sS948.1 t914 rfl
  have t992 : ty971 c338 = 12 := gSg.typ g974 sS948.1 t915 rfl
  have t993 : ty971 c388 = 13 := gSg.typ g974 sS948.1 t916 rfl
  have t994 : ty971 c441 = 14 := gSg.typ g974 sS948.1 t917 rfl
  have t995 : ty971 c497 = 15 := gSg.typ g974 sS948.1 t918 rfl
  have t996 : ty971 c556 = 16 := gSg.typ g974 sS948.1 t919 rfl
  have t997 : ty971 c618 = 17 := gSg.typ g974 sS948.1 t920 rfl
  have t998 : ty971 c683 = 18 := gSg.typ g974 sS948.1 t921 rfl
  have t999 : ty971 c751 = 19 := gSg.typ g974 sS948.1 t922 rfl
  have t1000 : ty971 c822 = 20 := gSg.typ g974 sS948.1 t923 rfl
  have t1001 : ty971 c896 = 21 := gSg.typ g974 sS948.1 tc896 rfl
  have s1002 := gSg.rawat g974 rf949 (fun w => by cases w) t904 (by decide) s952
  have s1003 := gSg.rawat g974 rf949 (fun w => by cases w) t904 (by decide) s953
  have s1004 := gSg.rawat g974 rf949 (fun w => by cases w) t904 (by decide) s954
  have s1005 := gSg.rawat g974 rf949 (fun w => by cases w) t904 (by decide) s955
  have s1006 := gSg.rawat g974 rf949 (fun w => by cases w) t904 (by decide) s956
  have s1007 := gSg.rawat g974 rf949 (fun w => by cases w) t904 (by decide) s957
  have s1008 := gSg.rawat g974 rf949 (fun w => by cases w) t904 (by decide) s958
  have s1009 := gSg.rawat g974 rf949 (fun w => by cases w) t904 (by decide) s959
  have s1010 := gSg.rawat g974 rf949 (fun w => by cases w) t904 (by decide) s960
  have s1011 := gSg.rawat g974 rf949 (fun w => by cases w) t904 (by decide) s961
  have s1012 := gSg.rawat g974 rf949 (fun w => by cases w) t904 (by decide) s962
  have s1013 := gSg.rawat g974 rf949 (fun w => by cases w) t904 (by decide) s963
  have s1014 := gSg.rawat g974 rf949 (fun w => by cases w) t904 (by decide) s964
  have s1015 := gSg.rawat g974 rf949 (fun w => by cases w) t904 (by decide) s965
  have s1016 := gSg.rawat g974 rf949 (fun w => by cases w) t904 (by decide) s966
  have s1017 := gSg.rawat g974 rf949 (fun w => by cases w) t904 (by decide) s967
  have s1018 := gSg.rawat g974 rf949 (fun w => by cases w) t904 (by decide) s968
  have s1019 := gSg.rawat g974 rf949 (fun w => by cases w) t904 (by decide) s969
  have s1020 := gSg.rawat g974 rf949 (fun w => by cases w) t904 (by decide) s970
  have s1021 := gSg.rawat g974 rf949 (fun w => by cases w) t904 (by decide) eh945
  have pr1022 : gNo [1, 23, 24, 25, 26, 27, 28, 29, 30, 31, 32, 33, 34, 35, 36, 37, 38, 39, 40, 41, 42] ty971 := gNo.gr g974 (by decide) (gNo.sub (by decide) pr943)
  have sS1023 : gSs rT 1027 ty971 [8999, 10999, 31999] h972 h972 := gSs.rf g974.1
  refine gs_rput rfl (by decide) rfl sS1023.1 t981 nx rw977.2.1 rf978 rfl (Or.inr rfl) (fun h1024 g1025 nh1024 mh1024 kh1024 zh1024 eh1024 fh1024 => ?_)
  have G1026 : gSg [1, 2, 3, 4, 5, 6, 7, 8, 9, 10, 11, 12, 13, 14, 15, 16, 17, 18, 19, 20, 21, 22, 23, 24, 25, 26, 27, 28, 29, 30, 31, 32, 33, 34, 35, 36, 37, 38, 39, 40, 41, 42, 200] [x] [8999, 10999, 31999] ty h ty971 h1024 := gSg.tr (gSg.ss G976 sS1023 (by decide)) g1025 (by decide) (by decide) (fun x hx => Or.inr hx)
  have sS1027 : gSs rT 1027 ty971 [8999, 10999, 31999] h1024 h1024 := gSs.rf g1025.1
  have rf1028 := Nat.lt_of_lt_of_eq rw977.2.1 nh1024.symm
  have rf1029 := zh1024.trans rf979
  have dd1030 : ∀ k, ¬ k ∈ ([36, 35, 34, 33, 32, 31, 30, 29, 28, 27, 26, 25, 15, 14, 13, 12, 11, 10, 9, 4, 2] : List Nat) → h1024.2.2.2.2 x k = defaultValue (gGG.2.1 12 k) := raw_dp fh1024 dd980
  have s1031 := (fh1024 2 (by decide)).trans s1002
  have s1032 := (fh1024 4 (by decide)).trans s1003
  have s1033 := (fh1024 9 (by decide)).trans s1004
  have s1034 := (fh1024 10 (by decide)).trans s1005
  have s1035 := (fh1024 11 (by decide)).trans s1006
  have s1036 := (fh1024 12 (by decide)).trans s1007
  have s1037 := (fh1024 13 (by decide)).trans s1008
  have s1038 := (fh1024 14 (by decide)).trans s1009
  have s1039 := (fh1024 15 (by decide)).trans s1010
  have s1040 := (fh1024 25 (by decide)).trans s1011
  have s1041 := (fh1024 26 (by decide)).trans s1012
  have s1042 := (fh1024 27 (by decide)).trans s1013
  have s1043 := (fh1024 28 (by decide)).trans s1014
  have s1044 := (fh1024 29 (by decide)).trans s1015
  have s1045 := (fh1024 30 (by decide)).trans s1016
  have s1046 := (fh1024 31 (by decide)).trans s1017
  have s1047 := (fh1024 32 (by decide)).trans s1018
  have s1048 := (fh1024 33 (by decide)).trans s1019
  have s1049 := (fh1024 34 (by decide)).trans s1020
  have s1050 := (fh1024 35 (by decide)).trans s1021
  refine gz_s 2 (pc' := 171) (L' := [some (.ref x), none, none, none, none]) (S' := [.int (zi 12288), .ref x]) rfl ?_
  refine gs_newr 23 rfl (by decide) rfl sS1027.1 (Nat.le_of_lt (Nat.lt_of_le_of_lt (gJ.cell sS1027.1 t982 rfl).1 (gJ.cell sS1027.1 t982 rfl).2.1)) (by omega) (by omega) rfl rfl (by show (12288 : Int) ≤ _; omega) (by show _ ≤ (12288 : Int); omega) (fun _ _ => gos_i (by decide) (by decide)) (fun ty1051 h1052 c1053 g1054 tc1053 lc1053 nc1053 mc1053 ec1053 dc1053 uc1053 => ?_)
  have gac1053 : h.1 ≤ c1053 := by have h8 := G1026.2.1; have h9 := sS1027.2.1; omega
  have uq1055 := uc1053 uq975 (Or.inr (gNo.sub (by decide) pr1022))
  have G1056 : gSg [1, 2, 3, 4, 5, 6, 7, 8, 9, 10, 11, 12, 13, 14, 15, 16, 17, 18, 19, 20, 21, 22, 23, 24, 25, 26, 27, 28, 29, 30, 31, 32, 33, 34, 35, 36, 37, 38, 39, 40, 41, 42, 200] [x] [8999, 10999, 31999] ty h ty1051 h1052 := gSg.tr (gSg.ss G1026 sS1027 (by decide)) g1054 (by decide) (by decide) (fun x hx => by cases hx)
  have rw1057 := gSg.raw g1054 rf1028 (fun w => by cases w)
  have rf1058 := (rw1057.2.2.1.trans kh1024)
  have rf1059 := (rw1057.2.2.2.trans rf1029)
  have dd1060 := gSg.rawd (ci := 12) (ps := [36, 35, 34, 33, 32, 31, 30, 29, 28, 27, 26, 25, 15, 14, 13, 12, 11, 10, 9, 4, 2]) g1054 rf1028 (fun w => by cases w) t981 (by decide) dd1030
  have t1061 : ty1051 x = 200 := rw1057.1.trans t981
  have t1062 : ty1051 c3 = 2 := gSg.typ g1054 sS1027.1 t982 rfl
  have t1063 : ty1051 c23 = 3 := gSg.typ g1054 sS1027.1 t983 rfl
  have t1064 : ty1051 c46 = 4 := gSg.typ g1054 sS1027.1 t984 rfl
  have t1065 : ty1051 c72 = 5 := gSg.typ g1054 sS1027.1 t985 rfl
  have t1066 : ty1051 c101 = 6 := gSg.typ g1054 sS1027.1 t986 rfl
  have t1067 : ty1051 c133 = 7 := gSg.typ g1054 sS1027.1 t987 rfl
  have t1068 : ty1051 c168 = 8 := gSg.typ g1054 sS1027.1 t988 rfl
  have t1069 : ty1051 c206 = 9 := gSg.typ g1054 sS1027.1 t989 rfl
  have t1070 : ty1051 c247 = 10 := gSg.typ g1054 sS1027.1 t990 rfl
  have t1071 : ty1051 c291 = 11 := gSg.typ g1054 sS1027.1 t991 rfl
  have t1072 : ty1051 c338 = 12 := gSg.typ g1054 sS1027.1 t992 rfl
  have t1073 : ty1051 c388 = 13 := gSg.typ g1054 sS1027.1 t993 rfl
  have t1074 : ty1051 c441 = 14 := gSg.typ g1054 sS1027.1 t994 rfl
  have t1075 : ty1051 c497 = 15 := gSg.typ g1054 sS1027.1 t995 rfl
  have t1076 : ty1051 c556 = 16 := gSg.typ g1054 sS1027.1 t996 rfl
  have t1077 : ty1051 c618 = 17 := gSg.typ g1054 sS1027.1 t997 rfl
  have t1078 : ty1051 c683 = 18 := gSg.typ g1054 sS1027.1 t998 rfl
  have t1079 : ty1051 c751 = 19 := gSg.typ g1054 sS1027.1 t999 rfl
  have t1080 : ty1051 c822 = 20 := gSg.typ g1054 sS1027.1 t1000 rfl
  have t1081 : ty1051 c896 = 21 := gSg.typ g1054 sS1027.1 t1001 rfl
  have t1082 : ty1051 c973 = 22 := gSg.typ g1054 sS1027.1 tc973 rfl
  have s1083 := gSg.rawat g1054 rf1028 (fun w => by cases w) t981 (by decide) s1031
  have s1084 := gSg.rawat g1054 rf1028 (fun w => by cases w) t981 (by decide) s1032
  have s1085 := gSg.rawat g1054 rf1028 (fun w => by cases w) t981 (by decide) s1033
  have s1086 := gSg.rawat g1054 rf1028 (fun w => by cases w) t981 (by decide) s1034
  have s1087 := gSg.rawat g1054 rf1028 (fun w => by cases w) t981 (by decide) s1035
  have s1088 := gSg.rawat g1054 rf1028 (fun w => by cases w) t981 (by decide) s1036
  have s1089 := gSg.rawat g1054 rf1028 (fun w => by cases w) t981 (by decide) s1037
  have s1090 := gSg.rawat g1054 rf1028 (fun w => by cases w) t981 (by decide) s1038
  have s1091 := gSg.rawat g1054 rf1028 (fun w => by cases w) t981 (by decide) s1039
  have s1092 := gSg.rawat g1054 rf1028 (fun w => by cases w) t981 (by decide) s1040
  have s1093 := gSg.rawat g1054 rf1028 (fun w => by cases w) t981 (by decide) s1041
  have s1094 := gSg.rawat g1054 rf1028 (fun w => by cases w) t981 (by decide) s1042
  have s1095 := gSg.rawat g1054 rf1028 (fun w => by cases w) t981 (by decide) s1043
  have s1096 := gSg.rawat g1054 rf1028 (fun w => by cases w) t981 (by decide) s1044
  have s1097 := gSg.rawat g1054 rf1028 (fun w => by cases w) t981 (by decide) s1045
  have s1098 := gSg.rawat g1054 rf1028 (fun w => by cases w) t981 (by decide) s1046
  have s1099 := gSg.rawat g1054 rf1028 (fun w => by cases w) t981 (by decide) s1047
  have s1100 := gSg.rawat g1054 rf1028 (fun w => by cases w) t981 (by decide) s1048
  have s1101 := gSg.rawat g1054 rf1028 (fun w => by cases w) t981 (by decide) s1049
  have s1102 := gSg.rawat g1054 rf1028 (fun w => by cases w) t981 (by decide) s1050
  have s1103 := gSg.rawat g1054 rf1028 (fun w => by cases w) t981 (by decide) eh1024
  have pr1104 : gNo [1, 24, 25, 26, 27, 28, 29, 30, 31, 32, 33, 34, 35, 36, 37, 38, 39, 40, 41, 42] ty1051 := gNo.gr g1054 (by decide) (gNo.sub (by decide) pr1022)
  have sS1105 : gSs rT 1027 ty1051 [8999, 10999, 31999] h1052 h1052 := gSs.rf g1054.1
  refine gs_rput rfl (by decide) rfl sS1105.1 t1061 nx rw1057.2.1 rf1058 rfl (Or.inr rfl) (fun h1106 g1107 nh1106 mh1106 kh1106 zh1106 eh1106 fh1106 => ?_)
  have G1108 : gSg [1, 2, 3, 4, 5, 6, 7, 8, 9, 10, 11, 12, 13, 14, 15, 16, 17, 18, 19, 20, 21, 22, 23, 24, 25, 26, 27, 28, 29, 30, 31, 32, 33, 34, 35, 36, 37, 38, 39, 40, 41, 42, 200] [x] [8999, 10999, 31999] ty h ty1051 h1106 := gSg.tr (gSg.ss G1056 sS1105 (by decide)) g1107 (by decide) (by decide) (fun x hx => Or.inr hx)
  have sS1109 : gSs rT 1027 ty1051 [8999, 10999, 31999] h1106 h1106 := gSs.rf g1107.1
  have rf1110 := Nat.lt_of_lt_of_eq rw1057.2.1 nh1106.symm
  have rf1111 := zh1106.trans rf1059
  have dd1112 : ∀ k, ¬ k ∈ ([37, 36, 35, 34, 33, 32, 31, 30, 29, 28, 27, 26, 25, 15, 14, 13, 12, 11, 10, 9, 4, 2] : List Nat) → h1106.2.2.2.2 x k = defaultValue (gGG.2.1 12 k) := raw_dp fh1106 dd1060
  have s1113 := (fh1106 2 (by decide)).trans s1083
  have s1114 := (fh1106 4 (by decide)).trans s1084
  have s1115 := (fh1106 9 (by decide)).trans s1085
  have s1116 := (fh1106 10 (by decide)).trans s1086
  have s1117 := (fh1106 11 (by decide)).trans s1087
  have s1118 := (fh1106 12 (by decide)).trans s1088
  have s1119 := (fh1106 13 (by decide)).trans s1089
  have s1120 := (fh1106 14 (by decide)).trans s1090
  have s1121 := (fh1106 15 (by decide)).trans s1091
  have s1122 := (fh1106 25 (by decide)).trans s1092
  have s1123 := (fh1106 26 (by decide)).trans s1093
  have s1124 := (fh1106 27 (by decide)).trans s1094
  have s1125 := (fh1106 28 (by decide)).trans s1095
  have s1126 := (fh1106 29 (by decide)).trans s1096
  have s1127 := (fh1106 30 (by decide)).trans s1097
  have s1128 := (fh1106 31 (by decide)).trans s1098
  have s1129 := (fh1106 32 (by decide)).trans s1099
  have s1130 := (fh1106 33 (by decide)).trans s1100
  have s1131 := (fh1106 34 (by decide)).trans s1101
  have s1132 := (fh1106 35 (by decide)).trans s1102
  have s1133 := (fh1106 36 (by decide)).trans s1103
  refine gz_s 2 (pc' := 180) (L' := [some (.ref x), none, none, none, none]) (S' := [.int (zi 192), .ref x]) rfl ?_
  refine gs_newr 24 rfl (by decide) rfl sS1109.1 (Nat.le_of_lt (Nat.lt_of_le_of_lt (gJ.cell sS1109.1 t1062 rfl).1 (gJ.cell sS1109.1 t1062 rfl).2.1)) (by omega) (by omega) rfl rfl (by show (192 : Int) ≤ _; omega) (by show _ ≤ (192 : Int); omega) (fun _ _ => gos_i (by decide) (by decide)) (fun ty1134 h1135 c1136 g1137 tc1136 lc1136 nc1136 mc1136 ec1136 dc1136 uc1136 => ?_)
  have gac1136 : h.1 ≤ c1136 := by have h8 := G1108.2.1; have h9 := sS1109.2.1; omega
  have uq1138 := uc1136 uq1055 (Or.inr (gNo.sub (by decide) pr1104))
  have G1139 : gSg [1, 2, 3, 4, 5, 6, 7, 8, 9, 10, 11, 12, 13, 14, 15, 16, 17, 18, 19, 20, 21, 22, 23, 24, 25, 26, 27, 28, 29, 30, 31, 32, 33, 34, 35, 36, 37, 38, 39, 40, 41, 42, 200] [x] [8999, 10999, 31999] ty h ty1134 h1135 := gSg.tr (gSg.ss G1108 sS1109 (by decide)) g1137 (by decide) (by decide) (fun x hx => by cases hx)
  have rw1140 := gSg.raw g1137 rf1110 (fun w => by cases w)
  have rf1141 := (rw1140.2.2.1.trans kh1106)
  have rf1142 := (rw1140.2.2.2.trans rf1111)
  have dd1143 := gSg.rawd (ci := 12) (ps := [37, 36, 35, 34, 33, 32, 31, 30, 29, 28, 27, 26, 25, 15, 14, 13, 12, 11, 10, 9, 4, 2]) g1137 rf1110 (fun w => by cases w) t1061 (by decide) dd1112
  have t1144 : ty1134 x = 200 := rw1140.1.trans t1061
  have t1145 : ty1134 c3 = 2 := gSg.typ g1137 sS1109.1 t1062 rfl
  have t1146 : ty1134 c23 = 3 := gSg.typ g1137 sS1109.1 t1063 rfl
  have t1147 : ty1134 c46 = 4 := gSg.typ g1137 sS1109.1 t1064 rfl
  have t1148 : ty1134 c72 = 5 := gSg.typ g1137 sS1109.1 t1065 rfl
  have t1149 : ty1134 c101 = 6 := gSg.typ g1137 sS1109.1 t1066 rfl
  have t1150 : ty1134 c133 = 7 := gSg.typ g1137 sS1109.1 t1067 rfl
  have t1151 : ty1134 c168 = 8 := gSg.typ g1137 sS1109.1 t1068 rfl
  have t1152 : ty1134 c206 = 9 := gSg.typ g1137 sS1109.1 t1069 rfl
  have t1153 : ty1134 c247 = 10 := gSg.typ g1137 sS1109.1 t1070 rfl
  have t1154 : ty1134 c291 = 11 := gSg.typ g1137 sS1109.1 t1071 rfl
  have t1155 : ty1134 c338 = 12 := gSg.typ g1137 sS1109.1 t1072 rfl
  have t1156 : ty1134 c388 = 13 := gSg.typ g1137 sS1109.1 t1073 rfl
  have t1157 : ty1134 c441 = 14 := gSg.typ g1137 sS1109.1 t1074 rfl
  have t1158 : ty1134 c497 = 15 := gSg.typ g1137 sS1109.1 t1075 rfl
  have t1159 : ty1134 c556 = 16 := gSg.typ g1137 sS1109.1 t1076 rfl
  have t1160 : ty1134 c618 = 17 := gSg.typ g1137 sS1109.1 t1077 rfl
  have t1161 : ty1134 c683 = 18 := gSg.typ g1137 sS1109.1 t1078 rfl
  have t1162 : ty1134 c751 = 19 := gSg.typ g1137 sS1109.1 t1079 rfl
  have t1163 : ty1134 c822 = 20 := gSg.typ g1137 sS1109.1 t1080 rfl
  have t1164 : ty1134 c896 = 21 := gSg.typ g1137 sS1109.1 t1081 rfl
  have t1165 : ty1134 c973 = 22 := gSg.typ g1137 sS1109.1 t1082 rfl
  have t1166 : ty1134 c1053 = 23 := gSg.typ g1137 sS1109.1 tc1053 rfl
  have s1167 := gSg.rawat g1137 rf1110 (fun w => by cases w) t1061 (by decide) s1113
  have s1168 := gSg.rawat g1137 rf1110 (fun w => by cases w) t1061 (by decide) s1114
  have s1169 := gSg.rawat g1137 rf1110 (fun w => by cases w) t1061 (by decide) s1115
  have s1170 := gSg.rawat g1137 rf1110 (fun w => by cases w) t1061 (by decide) s1116
  have s1171 := gSg.rawat g1137 rf1110 (fun w => by cases w) t1061 (by decide) s1117
  have s1172 := gSg.rawat g1137 rf1110 (fun w => by cases w) t1061 (by decide) s1118
  have s1173 := gSg.rawat g1137 rf1110 (fun w => by cases w) t1061 (by decide) s1119
  have s1174 := gSg.rawat g1137 rf1110 (fun w => by cases w) t1061 (by decide) s1120
  have s1175 := gSg.rawat g1137 rf1110 (fun w => by cases w) t1061 (by decide) s1121
  have s1176 := gSg.rawat g1137 rf1110 (fun w => by cases w) t1061 (by decide) s1122
  have s1177 := gSg.rawat g1137 rf1110 (fun w => by cases w) t1061 (by decide) s1123
  have s1178 := gSg.rawat g1137 rf1110 (fun w => by cases w) t1061 (by decide) s1124
  have s1179 := gSg.rawat g1137 rf1110 (fun w => by cases w) t1061 (by decide) s1125
  have s1180 := gSg.rawat g1137 rf1110 (fun w => by cases w) t1061 (by decide) s1126
  have s1181 := gSg.rawat g1137 rf1110 (fun w => by cases w) t1061 (by decide) s1127
  have s1182 := gSg.rawat g1137 rf1110 (fun w => by cases w) t1061 (by decide) s1128
  have s1183 := gSg.rawat g1137 rf1110 (fun w => by cases w) t1061 (by decide) s1129
  have s1184 := gSg.rawat g1137 rf1110 (fun w => by cases w) t1061 (by decide) s1130
  have s1185 := gSg.rawat g1137 rf1110 (fun w => by cases w) t1061 (by decide) s1131
  have s1186 := gSg.rawat g1137 rf1110 (fun w => by cases w) t1061 (by decide) s1132
  have s1187 := gSg.rawat g1137 rf1110 (fun w => by cases w) t1061 (by decide) s1133
  have s1188 := gSg.rawat g1137 rf1110 (fun w => by cases w) t1061 (by decide) eh1106
  have pr1189 : gNo [1, 25, 26, 27, 28, 29, 30, 31, 32, 33, 34, 35, 36, 37, 38, 39, 40, 41, 42] ty1134 := gNo.gr g1137 (by decide) (gNo.sub (by decide) pr1104)
  have sS1190 : gSs rT 1027 ty1134 [8999, 10999, 31999] h1135 h1135 := gSs.rf g1137.1
  refine gs_rput rfl (by decide) rfl sS1190.1 t1144 nx rw1140.2.1 rf1141 rfl (Or.inr rfl) (fun h1191 g1192 nh1191 mh1191 kh1191 zh1191 eh1191 fh1191 => ?_)
  have G1193 : gSg [1, 2, 3, 4, 5, 6, 7, 8, 9, 10, 11, 12, 13, 14, 15, 16, 17, 18, 19, 20, 21, 22, 23, 24, 25, 26, 27, 28, 29, 30, 31, 32, 33, 34, 35, 36, 37, 38, 39, 40, 41, 42, 200] [x] [8999, 10999, 31999] ty h ty1134 h1191 := gSg.tr (gSg.ss G1139 sS1190 (by decide)) g1192 (by decide) (by decide) (fun x hx => Or.inr hx)
  have sS1194 : gSs rT 1027 ty1134 [8999, 10999, 31999] h1191 h1191 := gSs.rf g1192.1
  have rf1195 := Nat.lt_of_lt_of_eq rw1140.2.1 nh1191.symm
  have rf1196 := zh1191.trans rf1142
  have dd1197 : ∀ k, ¬ k ∈ ([38, 37, 36, 35, 34, 33, 32, 31, 30, 29, 28, 27, 26, 25, 15, 14, 13, 12, 11, 10, 9, 4, 2] : List Nat) → h1191.2.2.2.2 x k = defaultValue (gGG.2.1 12 k) := raw_dp fh1191 dd1143
  have s1198 := (fh1191 2 (by decide)).trans s1167
  have s1199 := (fh1191 4 (by decide)).trans s1168
  have s1200 := (fh1191 9 (by decide)).trans s1169
  have s1201 := (fh1191 10 (by decide)).trans s1170
  have s1202 := (fh1191 11 (by decide)).trans s1171
  have s1203 := (fh1191 12 (by decide)).trans s1172
  have s1204 := (fh1191 13 (by decide)).trans s1173
  have s1205 := (fh1191 14 (by decide)).trans s1174
  have s1206 := (fh1191 15 (by decide)).trans s1175
  have s1207 := (fh1191 25 (by decide)).trans s1176
  have s1208 := (fh1191 26 (by decide)).trans s1177
  have s1209 := (fh1191 27 (by decide)).trans s1178
  have s1210 := (fh1191 28 (by decide)).trans s1179
  have s1211 := (fh1191 29 (by decide)).trans s1180
  have s1212 := (fh1191 30 (by decide)).trans s1181
  have s1213 := (fh1191 31 (by decide)).trans s1182
  have s1214 := (fh1191 32 (by decide)).trans s1183
  have s1215 := (fh1191 33 (by decide)).trans s1184
  have s1216 := (fh1191 34 (by decide)).trans s1185
  have s1217 := (fh1191 35 (by decide)).trans s1186
  have s1218 := (fh1191 36 (by decide)).trans s1187
  have s1219 := (fh1191 37 (by decide)).trans s1188
  refine gz_s 2 (pc' := 187) (L' := [some (.ref x), none, none, none, none]) (S' := [.int (zi 3), .ref x]) rfl ?_
  refine gs_newr 25 rfl (by decide) rfl sS1194.1 (Nat.le_of_lt (Nat.lt_of_le_of_lt (gJ.cell sS1194.1 t1145 rfl).1 (gJ.cell sS1194.1 t1145 rfl).2.1)) (by omega) (by omega) rfl rfl (by show (3 : Int) ≤ _; omega) (by show _ ≤ (3 : Int); omega) (fun _ _ => gos_i (by decide) (by decide)) (fun ty1220 h1221 c1222 g1223 tc1222 lc1222 nc1222 mc1222 ec1222 dc1222 uc1222 => ?_)
  have gac1222 : h.1 ≤ c1222 := by have h8 := G1193.2.1; have h9 := sS1194.2.1; omega
  have uq1224 := uc1222 uq1138 (Or.inr (gNo.sub (by decide) pr1189))
  have G1225 : gSg [1, 2, 3, 4, 5, 6, 7, 8, 9, 10, 11, 12, 13, 14, 15, 16, 17, 18, 19, 20, 21, 22, 23, 24, 25, 26, 27, 28, 29, 30, 31, 32, 33, 34, 35, 36, 37, 38, 39, 40, 41, 42, 200] [x] [8999, 10999, 31999] ty h ty1220 h1221 := gSg.tr (gSg.ss G1193 sS1194 (by decide)) g1223 (by decide) (by decide) (fun x hx => by cases hx)
  have rw1226 := gSg.raw g1223 rf1195 (fun w => by cases w)
  have rf1227 := (rw1226.2.2.1.trans kh1191)
  have rf1228 := (rw1226.2.2.2.trans rf1196)
  have dd1229 := gSg.rawd (ci := 12) (ps := [38, 37, 36, 35, 34, 33, 32, 31, 30, 29, 28, 27, 26, 25, 15, 14, 13, 12, 11, 10, 9, 4, 2]) g1223 rf1195 (fun w => by cases w) t1144 (by decide) dd1197
  have t1230 : ty1220 x = 200 := rw1226.1.trans t1144
  have t1231 : ty1220 c3 = 2 := gSg.typ g1223 sS1194.1 t1145 rfl
  have t1232 : ty1220 c23 = 3 := gSg.typ g1223 sS1194.1 t1146 rfl
  have t1233 : ty1220 c46 = 4 := gSg.typ g1223 sS1194.1 t1147 rfl
  have t1234 : ty1220 c72 = 5 := gSg.typ g1223 sS1194.1 t1148 rfl
  have t1235 : ty1220 c101 = 6 := gSg.typ g1223 sS1194.1 t1149 rfl
  have t1236 : ty1220 c133 = 7 := gSg.typ g1223 sS1194.1 t1150 rfl
  have t1237 : ty1220 c168 = 8 := gSg.typ g1223 sS1194.1 t1151 rfl
  have t1238 : ty1220 c206 = 9 := gSg.typ g1223 sS1194.1 t1152 rfl
  have t1239 : ty1220 c247 = 10 := gSg.typ g1223 sS1194.1 t1153 rfl
  have t1240 : ty1220 c291 = 11 := gSg.typ g1223 sS1194.1 t1154 rfl
  have t1241 : ty1220 c338 = 12 := gSg.typ g1223 sS1194.1 t1155 rfl
  have t1242 : ty1220 c388 = 13 := gSg.typ g1223 sS1194.1 t1156 rfl
  have t1243 : ty1220 c441 = 14 := gSg.typ g1223 sS1194.1 t1157 rfl
  have t1244 : ty1220 c497 = 15 := gSg.typ g1223 sS1194.1 t1158 rfl
  have t1245 : ty1220 c556 = 16 := gSg.typ g1223 sS1194.1 t1159 rfl
  have t1246 : ty1220 c618 = 17 := gSg.typ g1223 sS1194.1 t1160 rfl
  have t1247 : ty1220 c683 = 18 := gSg.typ g1223 sS1194.1 t1161 rfl
  have t1248 : ty1220 c751 = 19 := gSg.typ g1223 sS1194.1 t1162 rfl
  have t1249 : ty1220 c822 = 20 := gSg.typ g1223 sS1194.1 t1163 rfl
  have t1250 : ty1220 c896 = 21 := gSg.typ g1223 sS1194.1 t1164 rfl
  have t1251 : ty1220 c973 = 22 := gSg.typ g1223 sS1194.1 t1165 rfl
  have t1252 : ty1220 c1053 = 23 := gSg.typ g1223 sS1194.1 t1166 rfl
  have t1253 : ty1220 c1136 = 24 := gSg.typ g1223 sS1194.1 tc1136 rfl
  have s1254 := gSg.rawat g1223 rf1195 (fun w => by cases w) t1144 (by decide) s1198
  have s1255 := gSg.rawat g1223 rf1195 (fun w => by cases w) t1144 (by decide) s1199
  have s1256 := gSg.rawat g1223 rf1195 (fun w => by cases w) t1144 (by decide) s1200
  have s1257 := gSg.rawat g1223 rf1195 (fun w => by cases w) t1144 (by decide) s1201
  have s1258 := gSg.rawat g1223 rf1195 (fun w => by cases w) t1144 (by decide) s1202
  have s1259 := gSg.rawat g1223 rf1195 (fun w => by cases w) t1144 (by decide) s1203
  have s1260 := gSg.rawat g1223 rf1195 (fun w => by cases w) t1144 (by decide) s1204
  have s1261 := gSg.rawat g1223 rf1195 (fun w => by cases w) t1144 (by decide) s1205
  have s1262 := gSg.rawat g1223 rf1195 (fun w => by cases w) t1144 (by decide) s1206
  have s1263 := gSg.rawat g1223 rf1195 (fun w => by cases w) t1144 (by decide) s1207
  have s1264 := gSg.rawat g1223 rf1195 (fun w => by cases w) t1144 (by decide) s1208
  have s1265 := gSg.rawat g1223 rf1195 (fun w => by cases w) t1144 (by decide) s1209
  have s1266 := gSg.rawat g1223 rf1195 (fun w => by cases w) t1144 (by decide) s1210
  have s1267 := gSg.rawat g1223 rf1195 (fun w => by cases w) t1144 (by decide) s1211
  have s1268 := gSg.rawat g1223 rf1195 (fun w => by cases w) t1144 (by decide) s1212
  have s1269 := gSg.rawat g1223 rf1195 (fun w => by cases w) t1144 (by decide) s1213
  have s1270 := gSg.rawat g1223 rf1195 (fun w => by cases w) t1144 (by decide) s1214
  have s1271 := gSg.rawat g1223 rf1195 (fun w => by cases w) t1144 (by decide) s1215
  have s1272 := gSg.rawat g1223 rf1195 (fun w => by cases w) t1144 (by decide) s1216
  have s1273 := gSg.rawat g1223 rf1195 (fun w => by cases w) t1144 (by decide) s1217
  have s1274 := gSg.rawat g1223 rf1195 (fun w => by cases w) t1144 (by decide) s1218
  have s1275 := gSg.rawat g1223 rf1195 (fun w => by cases w) t1144 (by decide) s1219
  have s1276 := gSg.rawat g1223 rf1195 (fun w => by cases w) t1144 (by decide) eh1191
  have pr1277 : gNo [1, 26, 27, 28, 29, 30, 31, 32, 33, 34, 35, 36, 37, 38, 39, 40, 41, 42] ty1220 := gNo.gr g1223 (by decide) (gNo.sub (by decide) pr1189)
  have sS1278 : gSs rT 1027 ty1220 [8999, 10999, 31999] h1221 h1221 := gSs.rf g1223.1
  refine gs_rput rfl (by decide) rfl sS1278.1 t1230 nx rw1226.2.1 rf1227 rfl (Or.inr rfl) (fun h1279 g1280 nh1279 mh1279 kh1279 zh1279 eh1279 fh1279 => ?_)
  have G1281 : gSg [1, 2, 3, 4, 5, 6, 7, 8, 9, 10, 11, 12, 13, 14, 15, 16, 17, 18, 19, 20, 21, 22, 23, 24, 25, 26, 27, 28, 29, 30, 31, 32, 33, 34, 35, 36, 37, 38, 39, 40, 41, 42, 200] [x] [8999, 10999, 31999] ty h ty1220 h1279 := gSg.tr (gSg.ss G1225 sS1278 (by decide)) g1280 (by decide) (by decide) (fun x hx => Or.inr hx)
  have sS1282 : gSs rT 1027 ty1220 [8999, 10999, 31999] h1279 h1279 := gSs.rf g1280.1
  have rf1283 := Nat.lt_of_lt_of_eq rw1226.2.1 nh1279.symm
  have rf1284 := zh1279.trans rf1228
  have dd1285 : ∀ k, ¬ k ∈ ([40, 38, 37, 36, 35, 34, 33, 32, 31, 30, 29, 28, 27, 26, 25, 15, 14, 13, 12, 11, 10, 9, 4, 2] : List Nat) → h1279.2.2.2.2 x k = defaultValue (gGG.2.1 12 k) := raw_dp fh1279 dd1229
  have s1286 := (fh1279 2 (by decide)).trans s1254
  have s1287 := (fh1279 4 (by decide)).trans s1255
  have s1288 := (fh1279 9 (by decide)).trans s1256
  have s1289 := (fh1279 10 (by decide)).trans s1257
  have s1290 := (fh1279 11 (by decide)).trans s1258
  have s1291 := (fh1279 12 (by decide)).trans s1259
  have s1292 := (fh1279 13 (by decide)).trans s1260
  have s1293 := (fh1279 14 (by decide)).trans s1261
  have s1294 := (fh1279 15 (by decide)).trans s1262
  have s1295 := (fh1279 25 (by decide)).trans s1263
  have s1296 := (fh1279 26 (by decide)).trans s1264
  have s1297 := (fh1279 27 (by decide)).trans s1265
  have s1298 := (fh1279 28 (by decide)).trans s1266
  have s1299 := (fh1279 29 (by decide)).trans s1267
  have s1300 := (fh1279 30 (by decide)).trans s1268
  have s1301 := (fh1279 31 (by decide)).trans s1269
  have s1302 := (fh1279 32 (by decide)).trans s1270
  have s1303 := (fh1279 33 (by decide)).trans s1271
  have s1304 := (fh1279 34 (by decide)).trans s1272
  have s1305 := (fh1279 35 (by decide)).trans s1273
  have s1306 := (fh1279 36 (by decide)).trans s1274
  have s1307 := (fh1279 37 (by decide)).trans s1275
  have s1308 := (fh1279 38 (by decide)).trans s1276
  refine gz_s 2 (pc' := 196) (L' := [some (.ref x), none, none, none, none]) (S' := [.int (zi 1024), .ref x]) rfl ?_
  refine gs_newr 26 rfl (by decide) rfl sS1282.1 (Nat.le_of_lt (Nat.lt_of_le_of_lt (gJ.cell sS1282.1 t1231 rfl).1 (gJ.cell sS1282.1 t1231 rfl).2.1)) (by omega) (by omega) rfl rfl (by show (1024 : Int) ≤ _; omega) (by show _ ≤ (1024 : Int); omega) (fun _ _ => gos_i (by decide) (by decide)) (fun ty1309 h1310 c1311 g1312 tc1311 lc1311 nc1311 mc1311 ec1311 dc1311 uc1311 => ?_)
  have gac1311 : h.1 ≤ c1311 := by have h8 := G1281.2.1; have h9 := sS1282.2.1; omega
  have uq1313 := uc1311 uq1224 (Or.inr (gNo.sub (by decide) pr1277))
  have G1314 : gSg [1, 2, 3, 4, 5, 6, 7, 8, 9, 10, 11, 12, 13, 14, 15, 16, 17, 18, 19, 20, 21, 22, 23, 24, 25, 26, 27, 28, 29, 30, 31, 32, 33, 34, 35, 36, 37, 38, 39, 40, 41, 42, 200] [x] [8999, 10999, 31999] ty h ty1309 h1310 := gSg.tr (gSg.ss G1281 sS1282 (by decide)) g1312 (by decide) (by decide) (fun x hx => by cases hx)
  have rw1315 := gSg.raw g1312 rf1283 (fun w => by cases w)
  have rf1316 := (rw1315.2.2.1.trans kh1279)
  have rf1317 := (rw1315.2.2.2.trans rf1284)
  have dd1318 := gSg.rawd (ci := 12) (ps := [40, 38, 37, 36, 35, 34, 33, 32, 31, 30, 29, 28, 27, 26, 25, 15, 14, 13, 12, 11, 10, 9, 4, 2]) g1312 rf1283 (fun w => by cases w) t1230 (by decide) dd1285
  have t1319 : ty1309 x = 200 := rw1315.1.trans t1230
  have t1320 : ty1309 c3 = 2 := gSg.typ g1312 sS1282.1 t1231 rfl
  have t1321 : ty1309 c23 = 3 := gSg.typ g1312 sS1282.1 t1232 rfl
  have t1322 : ty1309 c46 = 4 := gSg.typ g1312 sS1282.1 t1233 rfl
  have t1323 : ty1309 c72 = 5 := gSg.typ g1312 sS1282.1 t1234 rfl
  have t1324 : ty1309 c101 = 6 := gSg.typ g1312 sS1282.1 t1235 rfl
  have t1325 : ty1309 c133 = 7 := gSg.typ g1312 sS1282.1 t1236 rfl
  have t1326 : ty1309 c168 = 8 := gSg.typ g1312 sS1282.1 t1237 rfl
  have t1327 : ty1309 c206 = 9 := gSg.typ g1312 sS1282.1 t1238 rfl
  have t1328 : ty1309 c247 = 10 := gSg.typ g1312 sS1282.1 t1239 rfl
  have t1329 : ty1309 c291 = 11 := gSg.typ g1312 sS1282.1 t1240 rfl
  have t1330 : ty1309 c338 = 12 := gSg.typ g1312 sS1282.1 t1241 rfl
  have t1331 : ty1309 c388 = 13 := gSg.typ g1312 sS1282.1 t1242 rfl
  have t1332 : ty1309 c441 = 14 := gSg.typ g1312 sS1282.1 t1243 rfl
  have t1333 : ty1309 c497 = 15 := gSg.typ g1312 sS1282.1 t1244 rfl
  have t1334 : ty1309 c556 = 16 := gSg.typ g1312 sS1282.1 t1245 rfl
  have t1335 : ty1309 c618 = 17 := gSg.typ g1312 sS1282.1 t1246 rfl
  have t1336 : ty1309 c683 = 18 := gSg.typ g1312 sS1282.1 t1247 rfl
  have t1337 : ty1309 c751 = 19 := gSg.typ g1312 sS1282.1 t1248 rfl
  have t1338 : ty1309 c822 = 20 := gSg.typ g1312 sS1282.1 t1249 rfl
  have t1339 : ty1309 c896 = 21 := gSg.typ g1312 sS1282.1 t1250 rfl
  have t1340 : ty1309 c973 = 22 := gSg.typ g1312 sS1282.1 t1251 rfl
  have t1341 : ty1309 c1053 = 23 := gSg.typ g1312 sS1282.1 t1252 rfl
  have t1342 : ty1309 c1136 = 24 := gSg.typ g1312 sS1282.1 t1253 rfl
  have t1343 : ty1309 c1222 = 25 := gSg.typ g1312 sS1282.1 tc1222 rfl
  have s1344 := gSg.rawat g1312 rf1283 (fun w => by cases w) t1230 (by decide) s1286
  have s1345 := gSg.rawat g1312 rf1283 (fun w => by cases w) t1230 (by decide) s1287
  have s1346 := gSg.rawat g1312 rf1283 (fun w => by cases w) t1230 (by decide) s1288
  have s1347 := gSg.rawat g1312 rf1283 (fun w => by cases w) t1230 (by decide) s1289
  have s1348 := gSg.rawat g1312 rf1283 (fun w => by cases w) t1230 (by decide) s1290
  have s1349 := gSg.rawat g1312 rf1283 (fun w => by cases w) t1230 (by decide) s1291
  have s1350 := gSg.rawat g1312 rf1283 (fun w => by cases w) t1230 (by decide) s1292
  have s1351 := gSg.rawat g1312 rf1283 (fun w => by cases w) t1230 (by decide) s1293
  have s1352 := gSg.rawat g1312 rf1283 (fun w => by cases w) t1230 (by decide) s1294
  have s1353 := gSg.rawat g1312 rf1283 (fun w => by cases w) t1230 (by decide) s1295
  have s1354 := gSg.rawat g1312 rf1283 (fun w => by cases w) t1230 (by decide) s1296
  have s1355 := gSg.rawat g1312 rf1283 (fun w => by cases w) t1230 (by decide) s1297
  have s1356 := gSg.rawat g1312 rf1283 (fun w => by cases w) t1230 (by decide) s1298
  have s1357 := gSg.rawat g1312 rf1283 (fun w => by cases w) t1230 (by decide) s1299
  have s1358 := gSg.rawat g1312 rf1283 (fun w => by cases w) t1230 (by decide) s1300
  have s1359 := gSg.rawat g1312 rf1283 (fun w => by cases w) t1230 (by decide) s1301
  have s1360 := gSg.rawat g1312 rf1283 (fun w => by cases w) t1230 (by decide) s1302
  have s1361 := gSg.rawat g1312 rf1283 (fun w => by cases w) t1230 (by decide) s1303
  have s1362 := gSg.rawat g1312 rf1283 (fun w => by cases w) t1230 (by decide) s1304
  have s1363 := gSg.rawat g1312 rf1283 (fun w => by cases w) t1230 (by decide) s1305
  have s1364 := gSg.rawat g1312 rf1283 (fun w => by cases w) t1230 (by decide) s1306
  have s1365 := gSg.rawat g1312 rf1283 (fun w => by cases w) t1230 (by decide) s1307
  have s1366 := gSg.rawat g1312 rf1283 (fun w => by cases w) t1230 (by decide) s1308
  have s1367 := gSg.rawat g1312 rf1283 (fun w => by cases w) t1230 (by decide) eh1279
  have pr1368 : gNo [1, 27, 28, 29, 30, 31, 32, 33, 34, 35, 36, 37, 38, 39, 40, 41, 42] ty1309 := gNo.gr g1312 (by decide) (gNo.sub (by decide) pr1277)
  have sS1369 : gSs rT 1027 ty1309 [8999, 10999, 31999] h1310 h1310 := gSs.rf g1312.1
  refine gs_rput rfl (by decide) rfl sS1369.1 t1319 nx rw1315.2.1 rf1316 rfl (Or.inr rfl) (fun h1370 g1371 nh1370 mh1370 kh1370 zh1370 eh1370 fh1370 => ?_)
  have G1372 : gSg [1, 2, 3, 4, 5, 6, 7, 8, 9, 10, 11, 12, 13, 14, 15, 16, 17, 18, 19, 20, 21, 22, 23, 24, 25, 26, 27, 28, 29, 30, 31, 32, 33, 34, 35, 36, 37, 38, 39, 40, 41, 42, 200] [x] [8999, 10999, 31999] ty h ty1309 h1370 := gSg.tr (gSg.ss G1314 sS1369 (by decide)) g1371 (by decide) (by decide) (fun x hx => Or.inr hx)
  have sS1373 : gSs rT 1027 ty1309 [8999, 10999, 31999] h1370 h1370 := gSs.rf g1371.1
  have rf1374 := Nat.lt_of_lt_of_eq rw1315.2.1 nh1370.symm
  have rf1375 := zh1370.trans rf1317
  have dd1376 : ∀ k, ¬ k ∈ ([49, 40, 38, 37, 36, 35, 34, 33, 32, 31, 30, 29, 28, 27, 26, 25, 15, 14, 13, 12, 11, 10, 9, 4, 2] : List Nat) → h1370.2.2.2.2 x k = defaultValue (gGG.2.1 12 k) := raw_dp fh1370 dd1318
  have s1377 := (fh1370 2 (by decide)).trans s1344
  have s1378 := (fh1370 4 (by decide)).trans s1345
  have s1379 := (fh1370 9 (by decide)).trans s1346
  have s1380 := (fh1370 10 (by decide)).trans s1347
  have s1381 := (fh1370 11 (by decide)).trans s1348
  have s1382 := (fh1370 12 (by decide)).trans s1349
  have s1383 := (fh1370 13 (by decide)).trans s1350
  have s1384 := (fh1370 14 (by decide)).trans s1351
  have s1385 := (fh1370 15 (by decide)).trans s1352
  have s1386 := (fh1370 25 (by decide)).trans s1353
  have s1387 := (fh1370 26 (by decide)).trans s1354
  have s1388 := (fh1370 27 (by decide)).trans s1355
  have s1389 := (fh1370 28 (by decide)).trans s1356
  have s1390 := (fh1370 29 (by decide)).trans s1357
  have s1391 := (fh1370 30 (by decide)).trans s1358
  have s1392 := (fh1370 31 (by decide)).trans s1359
  have s1393 := (fh1370 32 (by decide)).trans s1360
  have s1394 := (fh1370 33 (by decide)).trans s1361
  have s1395 := (fh1370 34 (by decide)).trans s1362
  have s1396 := (fh1370 35 (by decide)).trans s1363
  have s1397 := (fh1370 36 (by decide)).trans s1364
  have s1398 := (fh1370 37 (by decide)).trans s1365
  have s1399 := (fh1370 38 (by decide)).trans s1366
  have s1400 := (fh1370 40 (by decide)).trans s1367
  refine gz_s 2 (pc' := 204) (L' := [some (.ref x), none, none, none, none]) (S' := [.int (zi 10), .ref x]) rfl ?_
  refine gs_newr 27 rfl (by decide) rfl sS1373.1 (Nat.le_of_lt (Nat.lt_of_le_of_lt (gJ.cell sS1373.1 t1320 rfl).1 (gJ.cell sS1373.1 t1320 rfl).2.1)) (by omega) (by omega) rfl rfl (by show (10 : Int) ≤ _; omega) (by show _ ≤ (10 : Int); omega) (fun _ _ => gos_i (by decide) (by decide)) (fun ty1401 h1402 c1403 g1404 tc1403 lc1403 nc1403 mc1403 ec1403 dc1403 uc1403 => ?_)
  have gac1403 : h.1 ≤ c1403 := by have h8 := G1372.2.1; have h9 := sS1373.2.1; omega
  have uq1405 := uc1403 uq1313 (Or.inr (gNo.sub (by decide) pr1368))
  have G1406 : gSg [1, 2, 3, 4, 5, 6, 7, 8, 9, 10, 11, 12, 13, 14, 15, 16, 17, 18, 19, 20, 21, 22, 23, 24, 25, 26, 27, 28, 29, 30, 31, 32, 33, 34, 35, 36, 37, 38, 39, 40, 41, 42, 200] [x] [8999, 10999, 31999] ty h ty1401 h1402 := gSg.tr (gSg.ss G1372 sS1373 (by decide)) g1404 (by decide) (by decide) (fun x hx => by cases hx)
  have rw1407 := gSg.raw g1404 rf1374 (fun w => by cases w)
  have rf1408 := (rw1407.2.2.1.trans kh1370)
  have rf1409 := (rw1407.2.2.2.trans rf1375)
  have dd1410 := gSg.rawd (ci := 12) (ps := [49, 40, 38, 37, 36, 35, 34, 33, 32, 31, 30, 29, 28, 27, 26, 25, 15, 14, 13, 12, 11, 10, 9, 4, 2]) g1404 rf1374 (fun w => by cases w) t1319 (by decide) dd1376
  have t1411 : ty1401 x = 200 := rw1407.1.trans t1319
  have t1412 : ty1401 c3 = 2 := gSg.typ g1404 sS1373.1 t1320 rfl
  have t1413 : ty1401 c23 = 3 := gSg.typ g1404 sS1373.1 t1321 rfl
  have t1414 : ty1401 c46 = 4 := gSg.typ g1404 sS1373.1 t1322 rfl
  have t1415 : ty1401 c72 = 5 := gSg.typ g1404 sS1373.1 t1323 rfl
  have t1416 : ty1401 c101 = 6 := gSg.typ g1404 sS1373.1 t1324 rfl
  have t1417 : ty1401 c133 = 7 := gSg.typ g1404 sS1373.1 t1325 rfl
  have t1418 : ty1401 c168 = 8 := gSg.typ g1404 sS1373.1 t1326 rfl
  have t1419 : ty1401 c206 = 9 := gSg.typ g1404 sS1373.1 t1327 rfl
  have t1420 : ty1401 c247 = 10 := gSg.typ g1404 sS1373.1 t1328 rfl
  have t1421 : ty1401 c291 = 11 := gSg.typ g1404 sS1373.1 t1329 rfl
  have t1422 : ty1401 c338 = 12 := gSg.typ g1404 sS1373.1 t1330 rfl
  have t1423 : ty1401 c388 = 13 := gSg.typ g1404 sS1373.1 t1331 rfl
  have t1424 : ty1401 c441 = 14 := gSg.typ g1404 sS1373.1 t1332 rfl
  have t1425 : ty1401 c497 = 15 := gSg.typ g1404 sS1373.1 t1333 rfl
  have t1426 : ty1401 c556 = 16 := gSg.typ g1404 sS1373.1 t1334 rfl
  have t1427 : ty1401 c618 = 17 := gSg.typ g1404 sS1373.1 t1335 rfl
  have t1428 : ty1401 c683 = 18 := gSg.typ g1404 sS1373.1 t1336 rfl
  have t1429 : ty1401 c751 = 19 := gSg.typ g1404 sS1373.1 t1337 rfl
  have t1430 : ty1401 c822 = 20 := gSg.typ g1404 sS1373.1 t1338 rfl
  have t1431 : ty1401 c896 = 21 := gSg.typ g1404 sS1373.1 t1339 rfl
  have t1432 : ty1401 c973 = 22 := gSg.typ g1404 sS1373.1 t1340 rfl
  have t1433 : ty1401 c1053 = 23 := gSg.typ g1404 sS1373.1 t1341 rfl
  have t1434 : ty1401 c1136 = 24 := gSg.typ g1404 sS1373.1 t1342 rfl
  have t1435 : ty1401 c1222 = 25 := gSg.typ g1404 sS1373.1 t1343 rfl
  have t1436 : ty1401 c1311 = 26 := gSg.typ g1404 sS1373.1 tc1311 rfl
  have s1437 := gSg.rawat g1404 rf1374 (fun w => by cases w) t1319 (by decide) s1377
  have s1438 := gSg.rawat g1404 rf1374 (fun w => by cases w) t1319 (by decide) s1378
  have s1439 := gSg.rawat g1404 rf1374 (fun w => by cases w) t1319 (by decide) s1379
  have s1440 := gSg.rawat g1404 rf1374 (fun w => by cases w) t1319 (by decide) s1380
  have s1441 := gSg.rawat g1404 rf1374 (fun w => by cases w) t1319 (by decide) s1381
  have s1442 := gSg.rawat g1404 rf1374 (fun w => by cases w) t1319 (by decide) s1382
  have s1443 := gSg.rawat g1404 rf1374 (fun w => by cases w) t1319 (by decide) s1383
  have s1444 := gSg.rawat g1404 rf1374 (fun w => by cases w) t1319 (by decide) s1384
  have s1445 := gSg.rawat g1404 rf1374 (fun w => by cases w) t1319 (by decide) s1385
  have s1446 := gSg.rawat g1404 rf1374 (fun w => by cases w) t1319 (by decide) s1386
  have s1447 := gSg.rawat g1404 rf1374 (fun w => by cases w) t1319 (by decide) s1387
  have s1448 := gSg.rawat g1404 rf1374 (fun w => by cases w) t1319 (by decide) s1388
  have s1449 := gSg.rawat g1404 rf1374 (fun w => by cases w) t1319 (by decide) s1389
  have s1450 := gSg.rawat g1404 rf1374 (fun w => by cases w) t1319 (by decide) s1390
  have s1451 := gSg.rawat g1404 rf1374 (fun w => by cases w) t1319 (by decide) s1391
  have s1452 := gSg.rawat g1404 rf1374 (fun w => by cases w) t1319 (by decide) s1392
  have s1453 := gSg.rawat g1404 rf1374 (fun w => by cases w) t1319 (by decide) s1393
  have s1454 := gSg.rawat g1404 rf1374 (fun w => by cases w) t1319 (by decide) s1394
  have s1455 := gSg.rawat g1404 rf1374 (fun w => by cases w) t1319 (by decide) s1395
  have s1456 := gSg.rawat g1404 rf1374 (fun w => by cases w) t1319 (by decide) s1396
  have s1457 := gSg.rawat g1404 rf1374 (fun w => by cases w) t1319 (by decide) s1397
  have s1458 := gSg.rawat g1404 rf1374 (fun w => by cases w) t1319 (by decide) s1398
  have s1459 := gSg.rawat g1404 rf1374 (fun w => by cases w) t1319 (by decide) s1399
  have s1460 := gSg.rawat g1404 rf1374 (fun w => by cases w) t1319 (by decide) s1400
  have s1461 := gSg.rawat g1404 rf1374 (fun w => by cases w) t1319 (by decide) eh1370
  have pr1462 : gNo [1, 28, 29, 30, 31, 32, 33, 34, 35, 36, 37, 38, 39, 40, 41, 42] ty1401 := gNo.gr g1404 (by decide) (gNo.sub (by decide) pr1368)
  have sS1463 : gSs rT 1027 ty1401 [8999, 10999, 31999] h1402 h1402 := gSs.rf g1404.1
  refine gs_rput rfl (by decide) rfl sS1463.1 t1411 nx rw1407.2.1 rf1408 rfl (Or.inr rfl) (fun h1464 g1465 nh1464 mh1464 kh1464 zh1464 eh1464 fh1464 => ?_)
  have G1466 : gSg [1, 2, 3, 4, 5, 6, 7, 8, 9, 10, 11, 12, 13, 14, 15, 16, 17, 18, 19, 20, 21, 22, 23, 24, 25, 26, 27, 28, 29, 30, 31, 32, 33, 34, 35, 36, 37, 38, 39, 40, 41, 42, 200] [x] [8999, 10999, 31999] ty h ty1401 h1464 := gSg.tr (gSg.ss G1406 sS1463 (by decide)) g1465 (by decide) (by decide) (fun x hx => Or.inr hx)
  have sS1467 : gSs rT 1027 ty1401 [8999, 10999, 31999] h1464 h1464 := gSs.rf g1465.1
  have rf1468 := Nat.lt_of_lt_of_eq rw1407.2.1 nh1464.symm
  have rf1469 := zh1464.trans rf1409
  have dd1470 : ∀ k, ¬ k ∈ ([54, 49, 40, 38, 37, 36, 35, 34, 33, 32, 31, 30, 29, 28, 27, 26, 25, 15, 14, 13, 12, 11, 10, 9, 4, 2] : List Nat) → h1464.2.2.2.2 x k = defaultValue (gGG.2.1 12 k) := raw_dp fh1464 dd1410
  have s1471 := (fh1464 2 (by decide)).trans s1437
  have s1472 := (fh1464 4 (by decide)).trans s1438
  have s1473 := (fh1464 9 (by decide)).trans s1439
  have s1474 := (fh1464 10 (by decide)).trans s1440
  have s1475 := (fh1464 11 (by decide)).trans s1441
  have s1476 := (fh1464 12 (by decide)).trans s1442
  have s1477 := (fh1464 13 (by decide)).trans s1443
  have s1478 := (fh1464 14 (by decide)).trans s1444
  have s1479 := (fh1464 15 (by decide)).trans s1445
  have s1480 := (fh1464 25 (by decide)).trans s1446
  have s1481 := (fh1464 26 (by decide)).trans s1447
  have s1482 := (fh1464 27 (by decide)).trans s1448
  have s1483 := (fh1464 28 (by decide)).trans s1449
  have s1484 := (fh1464 29 (by decide)).trans s1450
  have s1485 := (fh1464 30 (by decide)).trans s1451
  have s1486 := (fh1464 31 (by decide)).trans s1452
  have s1487 := (fh1464 32 (by decide)).trans s1453
  have s1488 := (fh1464 33 (by decide)).trans s1454
  have s1489 := (fh1464 34 (by decide)).trans s1455
  have s1490 := (fh1464 35 (by decide)).trans s1456
  have s1491 := (fh1464 36 (by decide)).trans s1457
  have s1492 := (fh1464 37 (by decide)).trans s1458
  have s1493 := (fh1464 38 (by decide)).trans s1459
  have s1494 := (fh1464 40 (by decide)).trans s1460
  have s1495 := (fh1464 49 (by decide)).trans s1461
  refine gz_s 2 (pc' := 212) (L' := [some (.ref x), none, none, none, none]) (S' := [.int (zi 10), .ref x]) rfl ?_
  refine gs_newr 28 rfl (by decide) rfl sS1467.1 (Nat.le_of_lt (Nat.lt_of_le_of_lt (gJ.cell sS1467.1 t1412 rfl).1 (gJ.cell sS1467.1 t1412 rfl).2.1)) (by omega) (by omega) rfl rfl (by show (10 : Int) ≤ _; omega) (by show _ ≤ (10 : Int); omega) (fun _ _ => gos_i (by decide) (by decide)) (fun ty1496 h1497 c1498 g1499 tc1498 lc1498 nc1498 mc1498 ec1498 dc1498 uc1498 => ?_)
  have gac1498 : h.1 ≤ c1498 := by have h8 := G1466.2.1; have h9 := sS1467.2.1; omega
  have uq1500 := uc1498 uq1405 (Or.inr (gNo.sub (by decide) pr1462))
  have G1501 : gSg [1, 2, 3, 4, 5, 6, 7, 8, 9, 10, 11, 12, 13, 14, 15, 16, 17, 18, 19, 20, 21, 22, 23, 24, 25, 26, 27, 28, 29, 30, 31, 32, 33, 34, 35, 36, 37, 38, 39, 40, 41, 42, 200] [x] [8999, 10999, 31999] ty h ty1496 h1497 := gSg.tr (gSg.ss G1466 sS1467 (by decide)) g1499 (by decide) (by decide) (fun x hx => by cases hx)
  have rw1502 := gSg.raw g1499 rf1468 (fun w => by cases w)
  have rf1503 := (rw1502.2.2.1.trans kh1464)
  have rf1504 := (rw1502.2.2.2.trans rf1469)
  have dd1505 := gSg.rawd (ci := 12) (ps := [54, 49, 40, 38, 37, 36, 35, 34, 33, 32, 31, 30, 29, 28, 27, 26, 25, 15, 14, 13, 12, 11, 10, 9, 4, 2]) g1499 rf1468 (fun w => by cases w) t1411 (by decide) dd1470
  have t1506 : ty1496 x = 200 := rw1502.1.trans t1411
  have t1507 : ty1496 c3 = 2 := gSg.typ g1499 sS1467.1 t1412 rfl
  have t1508 : ty1496 c23 = 3 := gSg.typ g1499 sS1467.1 t1413 rfl
  have t1509 : ty1496 c46 = 4 := gSg.typ g1499 sS1467.1 t1414 rfl
  have t1510 : ty1496 c72 = 5 := gSg.typ g1499 sS1467.1 t1415 rfl
  have t1511 : ty1496 c101 = 6 := gSg.typ g1499 sS1467.1 t1416 rfl
  have t1512 : ty1496 c133 = 7 := gSg.typ g1499 sS1467.1 t1417 rfl
  have t1513 : ty1496 c168 = 8 := gSg.typ g1499 sS1467.1 t1418 rfl
  have t1514 : ty1496 c206 = 9 := gSg.typ g1499 sS1467.1 t1419 rfl
  have t1515 : ty1496 c247 = 10 := gSg.typ g1499 sS1467.1 t1420 rfl
  have t1516 : ty1496 c291 = 11 := gSg.typ g1499 sS1467.1 t1421 rfl
  have t1517 : ty1496 c338 = 12 := gSg.typ g1499 sS1467.1 t1422 rfl
  have t1518 : ty1496 c388 = 13 := gSg.typ g1499 sS1467.1 t1423 rfl
  have t1519 : ty1496 c441 = 14 := gSg.typ g1499 sS1467.1 t1424 rfl
  have t1520 : ty1496 c497 = 15 := gSg.typ g1499 sS1467.1 t1425 rfl
  have t1521 : ty1496 c556 = 16 := gSg.typ g1499 sS1467.1 t1426 rfl
  have t1522 : ty1496 c618 = 17 := gSg.typ g1499 sS1467.1 t1427 rfl
  have t1523 : ty1496 c683 = 18 := gSg.typ g1499 sS1467.1 t1428 rfl
  have t1524 : ty1496 c751 = 19 := gSg.typ g1499 sS1467.1 t1429 rfl
  have t1525 : ty1496 c822 = 20 := gSg.typ g1499 sS1467.1 t1430 rfl
  have t1526 : ty1496 c896 = 21 := gSg.typ g1499 sS1467.1 t1431 rfl
  have t1527 : ty1496 c973 = 22 := gSg.typ g1499 sS1467.1 t1432 rfl
  have t1528 : ty1496 c1053 = 23 := gSg.typ g1499 sS1467.1 t1433 rfl
  have t1529 : ty1496 c1136 = 24 := gSg.typ g1499 sS1467.1 t1434 rfl
  have t1530 : ty1496 c1222 = 25 := gSg.typ g1499 sS1467.1 t1435 rfl
  have t1531 : ty1496 c1311 = 26 := gSg.typ g1499 sS1467.1 t1436 rfl
  have t1532 : ty1496 c1403 = 27 := gSg.typ g1499 sS1467.1 tc1403 rfl
  have s1533 := gSg.rawat g1499 rf1468 (fun w => by cases w) t1411 (by decide) s1471
  have s1534 := gSg.rawat g1499 rf1468 (fun w => by cases w) t1411 (by decide) s1472
  have s1535 := gSg.rawat g1499 rf1468 (fun w => by cases w) t1411 (by decide) s1473
  have s1536 := gSg.rawat g1499 rf1468 (fun w => by cases w) t1411 (by decide) s1474
  have s1537 := gSg.rawat g1499 rf1468 (fun w => by cases w) t1411 (by decide) s1475
  have s1538 := gSg.rawat g1499 rf1468 (fun w => by cases w) t1411 (by decide) s1476
  have s1539 := gSg.rawat g1499 rf1468 (fun w => by cases w) t1411 (by decide) s1477
  have s1540 := gSg.rawat g1499 rf1468 (fun w => by cases w) t1411 (by decide) s1478
  have s1541 := gSg.rawat g1499 rf1468 (fun w => by cases w) t1411 (by decide) s1479
  have s1542 := gSg.rawat g1499 rf1468 (fun w => by cases w) t1411 (by decide) s1480
  have s1543 := gSg.rawat g1499 rf1468 (fun w => by cases w) t1411 (by decide) s1481
  have s1544 := gSg.rawat g1499 rf1468 (fun w => by cases w) t1411 (by decide) s1482
  have s1545 := gSg.rawat g1499 rf1468 (fun w => by cases w) t1411 (by decide) s1483
  have s1546 := gSg.rawat g1499 rf1468 (fun w => by cases w) t1411 (by decide) s1484
  have s1547 := gSg.rawat g1499 rf1468 (fun w => by cases w) t1411 (by decide) s1485
  have s1548 := gSg.rawat g1499 rf1468 (fun w => by cases w) t1411 (by decide) s1486
  have s1549 := gSg.rawat g1499 rf1468 (fun w => by cases w) t1411 (by decide) s1487
  have s1550 := gSg.rawat g1499 rf1468 (fun w => by cases w) t1411 (by decide) s1488
  have s1551 := gSg.rawat g1499 rf1468 (fun w => by cases w) t1411 (by decide) s1489
  have s1552 := gSg.rawat g1499 rf1468 (fun w => by cases w) t1411 (by decide) s1490
  have s1553 := gSg.rawat g1499 rf1468 (fun w => by cases w) t1411 (by decide) s1491
  have s1554 := gSg.rawat g1499 rf1468 (fun w => by cases w) t1411 (by decide) s1492
  have s1555 := gSg.rawat g1499 rf1468 (fun w => by cases w) t1411 (by decide) s1493
  have s1556 := gSg.rawat g1499 rf1468 (fun w => by cases w) t1411 (by decide) s1494
  have s1557 := gSg.rawat g1499 rf1468 (fun w => by cases w) t1411 (by decide) s1495
  have s1558 := gSg.rawat g1499 rf1468 (fun w => by cases w) t1411 (by decide) eh1464
  have pr1559 : gNo [1, 29, 30, 31, 32, 33, 34, 35, 36, 37, 38, 39, 40, 41, 42] ty1496 := gNo.gr g1499 (by decide) (gNo.sub (by decide) pr1462)
  have sS1560 : gSs rT 1027 ty1496 [8999, 10999, 31999] h1497 h1497 := gSs.rf g1499.1
  refine gs_rput rfl (by decide) rfl sS1560.1 t1506 nx rw1502.2.1 rf1503 rfl (Or.inr rfl) (fun h1561 g1562 nh1561 mh1561 kh1561 zh1561 eh1561 fh1561 => ?_)
  have G1563 : gSg [1, 2, 3, 4, 5, 6, 7, 8, 9, 10, 11, 12, 13, 14, 15, 16, 17, 18, 19, 20, 21, 22, 23, 24, 25, 26, 27, 28, 29, 30, 31, 32, 33, 34, 35, 36, 37, 38, 39, 40, 41, 42, 200] [x] [8999, 10999, 31999] ty h ty1496 h1561 := gSg.tr (gSg.ss G1501 sS1560 (by decide)) g1562 (by decide) (by decide) (fun x hx => Or.inr hx)
  have sS1564 : gSs rT 1027 ty1496 [8999, 10999, 31999] h1561 h1561 := gSs.rf g1562.1
  have rf1565 := Nat.lt_of_lt_of_eq rw1502.2.1 nh1561.symm
  have rf1566 := zh1561.trans rf1504
  have dd1567 : ∀ k, ¬ k ∈ ([55, 54, 49, 40, 38, 37, 36, 35, 34, 33, 32, 31, 30, 29, 28, 27, 26, 25, 15, 14, 13, 12, 11, 10, 9, 4, 2] : List Nat) → h1561.2.2.2.2 x k = defaultValue (gGG.2.1 12 k) := raw_dp fh1561 dd1505
  have s1568 := (fh1561 2 (by decide)).trans s1533
  have s1569 := (fh1561 4 (by decide)).trans s1534
  have s1570 := (fh1561 9 (by decide)).trans s1535
  have s1571 := (fh1561 10 (by decide)).trans s1536
  have s1572 := (fh1561 11 (by decide)).trans s1537
  have s1573 := (fh1561 12 (by decide)).trans s1538
  have s1574 := (fh1561 13 (by decide)).trans s1539
  have s1575 := (fh1561 14 (by decide)).trans s1540
  have s1576 := (fh1561 15 (by decide)).trans s1541
  have s1577 := (fh1561 25 (by decide)).trans s1542
  have s1578 := (fh1561 26 (by decide)).trans s1543
  have s1579 := (fh1561 27 (by decide)).trans s1544
  have s1580 := (fh1561 28 (by decide)).trans s1545
  have s1581 := (fh1561 29 (by decide)).trans s1546
  have s1582 := (fh1561 30 (by decide)).trans s1547
  have s1583 := (fh1561 31 (by decide)).trans s1548
  have s1584 := (fh1561 32 (by decide)).trans s1549
  have s1585 := (fh1561 33 (by decide)).trans s1550
  have s1586 := (fh1561 34 (by decide)).trans s1551
  have s1587 := (fh1561 35 (by decide)).trans s1552
  have s1588 := (fh1561 36 (by decide)).trans s1553
  have s1589 := (fh1561 37 (by decide)).trans s1554
  have s1590 := (fh1561 38 (by decide)).trans s1555
  have s1591 := (fh1561 40 (by decide)).trans s1556
  have s1592 := (fh1561 49 (by decide)).trans s1557
  have s1593 := (fh1561 54 (by decide)).trans s1558
  refine gz_s 2 (pc' := 220) (L' := [some (.ref x), none, none, none, none]) (S' := [.int (zi 10), .ref x]) rfl ?_
  refine gs_newr 29 rfl (by decide) rfl sS1564.1 (Nat.le_of_lt (Nat.lt_of_le_of_lt (gJ.cell sS1564.1 t1507 rfl).1 (gJ.cell sS1564.1 t1507 rfl).2.1)) (by omega) (by omega) rfl rfl (by show (10 : Int) ≤ _; omega) (by show _ ≤ (10 : Int); omega) (fun _ _ => gos_i (by decide) (by decide)) (fun ty1594 h1595 c1596 g1597 tc1596 lc1596 nc1596 mc1596 ec1596 dc1596 uc1596 => ?_)
  have gac1596 : h.1 ≤ c1596 := by have h8 := G1563.2.1; have h9 := sS1564.2.1; omega
  have uq1598 := uc1596 uq1500 (Or.inr (gNo.sub (by decide) pr1559))
  have G1599 : gSg [1, 2, 3, 4, 5, 6, 7, 8, 9, 10, 11, 12, 13, 14, 15, 16, 17, 18, 19, 20, 21, 22, 23, 24, 25, 26, 27, 28, 29, 30, 31, 32, 33, 34, 35, 36, 37, 38, 39, 40, 41, 42, 200] [x] [8999, 10999, 31999] ty h ty1594 h1595 := gSg.tr (gSg.ss G1563 sS1564 (by decide)) g1597 (by decide) (by decide) (fun x hx => by cases hx)
  have rw1600 := gSg.raw g1597 rf1565 (fun w => by cases w)
  have rf1601 := (rw1600.2.2.1.trans kh1561)
  have rf1602 := (rw1600.2.2.2.trans rf1566)
  have dd1603 := gSg.rawd (ci := 12) (ps := [55, 54, 49, 40, 38, 37, 36, 35, 34, 33, 32, 31, 30, 29, 28, 27, 26, 25, 15, 14, 13, 12, 11, 10, 9, 4, 2]) g1597 rf1565 (fun w => by cases w) t1506 (by decide) dd1567
  have t1604 : ty1594 x = 200 := rw1600.1.trans t1506
  have t1605 : ty1594 c3 = 2 := gSg.typ g1597 sS1564.1 t1507 rfl
  have t1606 : ty1594 c23 = 3 := gSg.typ g1597 sS1564.1 t1508 rfl
  have t1607 : ty1594 c46 = 4 := gSg.typ g1597 sS1564.1 t1509 rfl
  have t1608 : ty1594 c72 = 5 := gSg.typ g1597 sS1564.1 t1510 rfl
  have t1609 : ty1594 c101 = 6 := gSg.typ g1597 sS1564.1 t1511 rfl
  have t1610 : ty1594 c133 = 7 := gSg.typ g1597 sS1564.1 t1512 rfl
  have t1611 : ty1594 c168 = 8 := gSg.typ g1597 sS1564.1 t1513 rfl
  have t1612 : ty1594 c206 = 9 := gSg.typ g1597 sS1564.1 t1514 rfl
  have t1613 : ty1594 c247 = 10 := gSg.typ g1597 sS1564.1 t1515 rfl
  have t1614 : ty1594 c291 = 11 := gSg.typ g1597 sS1564.1 t1516 rfl
  have t1615 : ty1594 c338 = 12 := gSg.typ g1597 sS1564.1 t1517 rfl
  have t1616 : ty1594 c388 = 13 := gSg.typ g1597 sS1564.1 t1518 rfl
  have t1617 : ty1594 c441 = 14 := gSg.typ g1597 sS1564.1 t1519 rfl
  have t1618 : ty1594 c497 = 15 := gSg.typ g1597 sS1564.1 t1520 rfl
  have t1619 : ty1594 c556 = 16 := gSg.typ g1597 sS1564.1 t1521 rfl
  have t1620 : ty1594 c618 = 17 := gSg.typ g1597 sS1564.1 t1522 rfl
  have t1621 : ty1594 c683 = 18 := gSg.typ g1597 sS1564.1 t1523 rfl
  have t1622 : ty1594 c751 = 19 := gSg.typ g1597 sS1564.1 t1524 rfl
  have t1623 : ty1594 c822 = 20 := gSg.typ g1597 sS1564.1 t1525 rfl
  have t1624 : ty1594 c896 = 21 := gSg.typ g1597 sS1564.1 t1526 rfl
  have t1625 : ty1594 c973 = 22 := gSg.typ g1597 sS1564.1 t1527 rfl
  have t1626 : ty1594 c1053 = 23 := gSg.typ g1597 sS1564.1 t1528 rfl
  have t1627 : ty1594 c1136 = 24 := gSg.typ g1597 sS1564.1 t1529 rfl
  have t1628 : ty1594 c1222 = 25 := gSg.typ g1597 sS1564.1 t1530 rfl
  have t1629 : ty1594 c1311 = 26 := gSg.typ g1597 sS1564.1 t1531 rfl
  have t1630 : ty1594 c1403 = 27 := gSg.typ g1597 sS1564.1 t1532 rfl
  have t1631 : ty1594 c1498 = 28 := gSg.typ g1597 sS1564.1 tc1498 rfl
  have s1632 := gSg.rawat g1597 rf1565 (fun w => by cases w) t1506 (by decide) s1568
  have s1633 := gSg.rawat g1597 rf1565 (fun w => by cases w) t1506 (by decide) s1569
  have s1634 := gSg.rawat g1597 rf1565 (fun w => by cases w) t1506 (by decide) s1570
  have s1635 := gSg.rawat g1597 rf1565 (fun w => by cases w) t1506 (by decide) s1571
  have s1636 := gSg.rawat g1597 rf1565 (fun w => by cases w) t1506 (by decide) s1572
  have s1637 := gSg.rawat g1597 rf1565 (fun w => by cases w) t1506 (by decide) s1573
  have s1638 := gSg.rawat g1597 rf1565 (fun w => by cases w) t1506 (by decide) s1574
  have s1639 := gSg.rawat g1597 rf1565 (fun w => by cases w) t1506 (by decide) s1575
  have s1640 := gSg.rawat g1597 rf1565 (fun w => by cases w) t1506 (by decide) s1576
  have s1641 := gSg.rawat g1597 rf1565 (fun w => by cases w) t1506 (by decide) s1577
  have s1642 := gSg.rawat g1597 rf1565 (fun w => by cases w) t1506 (by decide) s1578
  have s1643 := gSg.rawat g1597 rf1565 (fun w => by cases w) t1506 (by decide) s1579
  have s1644 := gSg.rawat g1597 rf1565 (fun w => by cases w) t1506 (by decide) s1580
  have s1645 := gSg.rawat g1597 rf1565 (fun w => by cases w) t1506 (by decide) s1581
  have s1646 := gSg.rawat g1597 rf1565 (fun w => by cases w) t1506 (by decide) s1582
  have s1647 := gSg.rawat g1597 rf1565 (fun w => by cases w) t1506 (by decide) s1583
  have s1648 := gSg.rawat g1597 rf1565 (fun w => by cases w) t1506 (by decide) s1584
  have s1649 := gSg.rawat g1597 rf1565 (fun w => by cases w) t1506 (by decide) s1585
  have s1650 := gSg.rawat g1597 rf1565 (fun w => by cases w) t1506 (by decide) s1586
  have s1651 := gSg.rawat g1597 rf1565 (fun w => by cases w) t1506 (by decide) s1587
  have s1652 := gSg.rawat g1597 rf1565 (fun w => by cases w) t1506 (by decide) s1588
  have s1653 := gSg.rawat g1597 rf1565 (fun w => by cases w) t1506 (by decide) s1589
  have s1654 := gSg.rawat g1597 rf1565 (fun w => by cases w) t1506 (by decide) s1590
  have s1655 := gSg.rawat g1597 rf1565 (fun w => by cases w) t1506 (by decide) s1591
  have s1656 := gSg.rawat g1597 rf1565 (fun w => by cases w) t1506 (by decide) s1592
  have s1657 := gSg.rawat g1597 rf1565 (fun w => by cases w) t1506 (by decide) s1593
  have s1658 := gSg.rawat g1597 rf1565 (fun w => by cases w) t1506 (by decide) eh1561
  have pr1659 : gNo [1, 30, 31, 32, 33, 34, 35, 36, 37, 38, 39, 40, 41, 42] ty1594 := gNo.gr g1597 (by decide) (gNo.sub (by decide) pr1559)
  have sS1660 : gSs rT 1027 ty1594 [8999, 10999, 31999] h1595 h1595 := gSs.rf g1597.1
  refine gs_rput rfl (by decide) rfl sS1660.1 t1604 nx rw1600.2.1 rf1601 rfl (Or.inr rfl) (fun h1661 g1662 nh1661 mh1661 kh1661 zh1661 eh1661 fh1661 => ?_)
  have G1663 : gSg [1, 2, 3, 4, 5, 6, 7, 8, 9, 10, 11, 12, 13, 14, 15, 16, 17, 18, 19, 20, 21, 22, 23, 24, 25, 26, 27, 28, 29, 30, 31, 32, 33, 34, 35, 36, 37, 38, 39, 40, 41, 42, 200] [x] [8999, 10999, 31999] ty h ty1594 h1661 := gSg.tr (gSg.ss G1599 sS1660 (by decide)) g1662 (by decide) (by decide) (fun x hx => Or.inr hx)
  have sS1664 : gSs rT 1027 ty1594 [8999, 10999, 31999] h1661 h1661 := gSs.rf g1662.1
  have rf1665 := Nat.lt_of_lt_of_eq rw1600.2.1 nh1661.symm
  have rf1666 := zh1661.trans rf1602
  have dd1667 : ∀ k, ¬ k ∈ ([56, 55, 54, 49, 40, 38, 37, 36, 35, 34, 33, 32, 31, 30, 29, 28, 27, 26, 25, 15, 14, 13, 12, 11, 10, 9, 4, 2] : List Nat) → h1661.2.2.2.2 x k = defaultValue (gGG.2.1 12 k) := raw_dp fh1661 dd1603
  have s1668 := (fh1661 2 (by decide)).trans s1632
  have s1669 := (fh1661 4 (by decide)).trans s1633
  have s1670 := (fh1661 9 (by decide)).trans s1634
  have s1671 := (fh1661 10 (by decide)).trans s1635
  have s1672 := (fh1661 11 (by decide)).trans s1636
  have s1673 := (fh1661 12 (by decide)).trans s1637
  have s1674 := (fh1661 13 (by decide)).trans s1638
  have s1675 := (fh1661 14 (by decide)).trans s1639
  have s1676 := (fh1661 15 (by decide)).trans s1640
  have s1677 := (fh1661 25 (by decide)).trans s1641
  have s1678 := (fh1661 26 (by decide)).trans s1642
  have s1679 := (fh1661 27 (by decide)).trans s1643
  have s1680 := (fh1661 28 (by decide)).trans s1644
  have s1681 := (fh1661 29 (by decide)).trans s1645
  have s1682 := (fh1661 30 (by decide)).trans s1646
  have s1683 := (fh1661 31 (by decide)).trans s1647
  have s1684 := (fh1661 32 (by decide)).trans s1648
  have s1685 := (fh1661 33 (by decide)).trans s1649
  have s1686 := (fh1661 34 (by decide)).trans s1650
  have s1687 := (fh1661 35 (by decide)).trans s1651
  have s1688 := (fh1661 36 (by decide)).trans s1652
  have s1689 := (fh1661 37 (by decide)).trans s1653
  have s1690 := (fh1661 38 (by decide)).trans s1654
  have s1691 := (fh1661 40 (by decide)).trans s1655
  have s1692 := (fh1661 49 (by decide)).trans s1656
  have s1693 := (fh1661 54 (by decide)).trans s1657
  have s1694 := (fh1661 55 (by decide)).trans s1658
  refine gz_s 2 (pc' := 228) (L' := [some (.ref x), none, none, none, none]) (S' := [.int (zi 10), .ref x]) rfl ?_
  refine gs_newr 30 rfl (by decide) rfl sS1664.1 (Nat.le_of_lt (Nat.lt_of_le_of_lt (gJ.cell sS1664.1 t1605 rfl).1 (gJ.cell sS1664.1 t1605 rfl).2.1)) (by omega) (by omega) rfl rfl (by show (10 : Int) ≤ _; omega) (by show _ ≤ (10 : Int); omega) (fun _ _ => gos_i (by decide) (by decide)) (fun ty1695 h1696 c1697 g1698 tc1697 lc1697 nc1697 mc1697 ec1697 dc1697 uc1697 => ?_)
  have gac1697 : h.1 ≤ c1697 := by have h8 := G1663.2.1; have h9 := sS1664.2.1; omega
  have uq1699 := uc1697 uq1598 (Or.inr (gNo.sub (by decide) pr1659))
  have G1700 : gSg [1, 2, 3, 4, 5, 6, 7, 8, 9, 10, 11, 12, 13, 14, 15, 16, 17, 18, 19, 20, 21, 22, 23, 24, 25, 26, 27, 28, 29, 30, 31, 32, 33, 34, 35, 36, 37, 38, 39, 40, 41, 42, 200] [x] [8999, 10999, 31999] ty h ty1695 h1696 := gSg.tr (gSg.ss G1663 sS1664 (by decide)) g1698 (by decide) (by decide) (fun x hx => by cases hx)
  have rw1701 := gSg.raw g1698 rf1665 (fun w => by cases w)
  have rf1702 := (rw1701.2.2.1.trans kh1661)
  have rf1703 := (rw1701.2.2.2.trans rf1666)
  have dd1704 := gSg.rawd (ci := 12) (ps := [56, 55, 54, 49, 40, 38, 37, 36, 35, 34, 33, 32, 31, 30, 29, 28, 27, 26, 25, 15, 14, 13, 12, 11, 10, 9, 4, 2]) g1698 rf1665 (fun w => by cases w) t1604 (by decide) dd1667
  have t1705 : ty1695 x = 200 := rw1701.1.trans t1604
  have t1706 : ty1695 c3 = 2 := gSg.typ g1698 sS1664.1 t1605 rfl
  have t1707 : ty1695 c23 = 3 := gSg.typ g1698 sS1664.1 t1606 rfl
  have t1708 : ty1695 c46 = 4 := gSg.typ g1698 sS1664.1 t1607 rfl
  have t1709 : ty1695 c72 = 5 := gSg.typ g1698 sS1664.1 t1608 rfl
  have t1710 : ty1695 c101 = 6 := gSg.typ g1698 sS1664.1 t1609 rfl
  have t1711 : ty1695 c133 = 7 := gSg.typ g1698 sS1664.1 t1610 rfl
  have t1712 : ty1695 c168 = 8 := gSg.typ g1698 sS1664.1 t1611 rfl
  have t1713 : ty1695 c206 = 9 := gSg.typ g1698 sS1664.1 t1612 rfl
  have t1714 : ty1695 c247 = 10 := gSg.typ g1698 sS1664.1 t1613 rfl
  have t1715 : ty1695 c291 = 11 := gSg.typ g1698 sS1664.1 t1614 rfl
  have t1716 : ty1695 c338 = 12 := gSg.typ g1698 sS1664.1 t1615 rfl
  have t1717 : ty1695 c388 = 13 := gSg.typ g1698 sS1664.1 t1616 rfl
  have t1718 : ty1695 c441 = 14 := gSg.typ g1698 sS1664.1 t1617 rfl
  have t1719 : ty1695 c497 = 15 := gSg.typ g1698 sS1664.1 t1618 rfl
  have t1720 : ty1695 c556 = 16 := gSg.typ g1698 sS1664.1 t1619 rfl
  have t1721 : ty1695 c618 = 17 := gSg.typ g1698 sS1664.1 t1620 rfl
  have t1722 : ty1695 c683 = 18 := gSg.typ g1698 sS1664.1 t1621 rfl
  have t1723 : ty1695 c751 = 19 := gSg.typ g1698 sS1664.1 t1622 rfl
  have t1724 : ty1695 c822 = 20 := gSg.typ g1698 sS1664.1 t1623 rfl
  have t1725 : ty1695 c896 = 21 := gSg.typ g1698 sS1664.1 t1624 rfl
  have t1726 : ty1695 c973 = 22 := gSg.typ g1698 sS1664.1 t1625 rfl
  have t1727 : ty1695 c1053 = 23 := gSg.typ g1698 sS1664.1 t1626 rfl
  have t1728 : ty1695 c1136 = 24 := gSg.typ g1698 sS1664.1 t1627 rfl
  have t1729 : ty1695 c1222 = 25 := gSg.typ g1698 sS1664.1 t1628 rfl
  have t1730 : ty1695 c1311 = 26 := gSg.typ g1698 sS1664.1 t1629 rfl
  have t1731 : ty1695 c1403 = 27 := gSg.typ g1698 sS1664.1 t1630 rfl
  have t1732 : ty1695 c1498 = 28 := gSg.typ g1698 sS1664.1 t1631 rfl
  have t1733 : ty1695 c1596 = 29 := gSg.typ g1698 sS1664.1 tc1596 rfl
  have s1734 := gSg.rawat g1698 rf1665 (fun w => by cases w) t1604 (by decide) s1668
  have s1735 := gSg.rawat g1698 rf1665 (fun w => by cases w) t1604 (by decide) s1669
  have s1736 := gSg.rawat g1698 rf1665 (fun w => by cases w) t1604 (by decide) s1670
  have s1737 := gSg.rawat g1698 rf1665 (fun w => by cases w) t1604 (by decide) s1671
  have s1738 := gSg.rawat g1698 rf1665 (fun w => by cases w) t1604 (by decide) s1672
  have s1739 := gSg.rawat g1698 rf1665 (fun w => by cases w) t1604 (by decide) s1673
  have s1740 := gSg.rawat g1698 rf1665 (fun w => by cases w) t1604 (by decide) s1674
  have s1741 := gSg.rawat g1698 rf1665 (fun w => by cases w) t1604 (by decide) s1675
  have s1742 := gSg.rawat g1698 rf1665 (fun w => by cases w) t1604 (by decide) s1676
  have s1743 := gSg.rawat g1698 rf1665 (fun w => by cases w) t1604 (by decide) s1677
  have s1744 := gSg.rawat g1698 rf1665 (fun w => by cases w) t1604 (by decide) s1678
  have s1745 := gSg.rawat g1698 rf1665 (fun w => by cases w) t1604 (by decide) s1679
  have s1746 := gSg.rawat g1698 rf1665 (fun w => by cases w) t1604 (by decide) s1680
  have s1747 := gSg.rawat g1698 rf1665 (fun w => by cases w) t1604 (by decide) s1681
  have s1748 := gSg.rawat g1698 rf1665 (fun w => by cases w) t1604 (by decide) s1682
  have s1749 := gSg.rawat g1698 rf1665 (fun w => by cases w) t1604 (by decide) s1683
  have s1750 := gSg.rawat g1698 rf1665 (fun w => by cases w) t1604 (by decide) s1684
  have s1751 := gSg.rawat g1698 rf1665 (fun w => by cases w) t1604 (by decide) s1685
  have s1752 := gSg.rawat g1698 rf1665 (fun w => by cases w) t1604 (by decide) s1686
  have s1753 := gSg.rawat g1698 rf1665 (fun w => by cases w) t1604 (by decide) s1687
  have s1754 := gSg.rawat g1698 rf1665 (fun w => by cases w) t1604 (by decide) s1688
  have s1755 := gSg.rawat g1698 rf1665 (fun w => by cases w) t1604 (by decide) s1689
  have s1756 := gSg.rawat g1698 rf1665 (fun w => by cases w) t1604 (by decide) s1690
  have s1757 := gSg.rawat g1698 rf1665 (fun w => by cases w) t1604 (by decide) s1691
  have s1758 := gSg.rawat g1698 rf1665 (fun w => by cases w) t1604 (by decide) s1692
  have s1759 := gSg.rawat g1698 rf1665 (fun w => by cases w) t1604 (by decide) s1693
  have s1760 := gSg.rawat g1698 rf1665 (fun w => by cases w) t1604 (by decide) s1694
  have s1761 := gSg.rawat g1698 rf1665 (fun w => by cases w) t1604 (by decide) eh1661
  have pr1762 : gNo [1, 31, 32, 33, 34, 35, 36, 37, 38, 39, 40, 41, 42] ty1695 := gNo.gr g1698 (by decide) (gNo.sub (by decide) pr1659)
  have sS1763 : gSs rT 1027 ty1695 [8999, 10999, 31999] h1696 h1696 := gSs.rf g1698.1
  refine gs_rput rfl (by decide) rfl sS1763.1 t1705 nx rw1701.2.1 rf1702 rfl (Or.inr rfl) (fun h1764 g1765 nh1764 mh1764 kh1764 zh1764 eh1764 fh1764 => ?_)
  have G1766 : gSg [1, 2, 3, 4, 5, 6, 7, 8, 9, 10, 11, 12, 13, 14, 15, 16, 17, 18, 19, 20, 21, 22, 23, 24, 25, 26, 27, 28, 29, 30, 31, 32, 33, 34, 35, 36, 37, 38, 39, 40, 41, 42, 200] [x] [8999, 10999, 31999] ty h ty1695 h1764 := gSg.tr (gSg.ss G1700 sS1763 (by decide)) g1765 (by decide) (by decide) (fun x hx => Or.inr hx)
  have sS1767 : gSs rT 1027 ty1695 [8999, 10999, 31999] h1764 h1764 := gSs.rf g1765.1
  have rf1768 := Nat.lt_of_lt_of_eq rw1701.2.1 nh1764.symm
  have rf1769 := zh1764.trans rf1703
  have dd1770 : ∀ k, ¬ k ∈ ([57, 56, 55, 54, 49, 40, 38, 37, 36, 35, 34, 33, 32, 31, 30, 29, 28, 27, 26, 25, 15, 14, 13, 12, 11, 10, 9, 4, 2] : List Nat) → h1764.2.2.2.2 x k = defaultValue (gGG.2.1 12 k) := raw_dp fh1764 dd1704
  have s1771 := (fh1764 2 (by decide)).trans s1734
  have s1772 := (fh1764 4 (by decide)).trans s1735
  have s1773 := (fh1764 9 (by decide)).trans s1736
  have s1774 := (fh1764 10 (by decide)).trans s1737
  have s1775 := (fh1764 11 (by decide)).trans s1738
  have s1776 := (fh1764 12 (by decide)).trans s1739
  have s1777 := (fh1764 13 (by decide)).trans s1740
  have s1778 := (fh1764 14 (by decide)).trans s1741
  have s1779 := (fh1764 15 (by decide)).trans s1742
  have s1780 := (fh1764 25 (by decide)).trans s1743
  have s1781 := (fh1764 26 (by decide)).trans s1744
  have s1782 := (fh1764 27 (by decide)).trans s1745
  have s1783 := (fh1764 28 (by decide)).trans s1746
  have s1784 := (fh1764 29 (by decide)).trans s1747
  have s1785 := (fh1764 30 (by decide)).trans s1748
  have s1786 := (fh1764 31 (by decide)).trans s1749
  have s1787 := (fh1764 32 (by decide)).trans s1750
  have s1788 := (fh1764 33 (by decide)).trans s1751
  have s1789 := (fh1764 34 (by decide)).trans s1752
  have s1790 := (fh1764 35 (by decide)).trans s1753
  have s1791 := (fh1764 36 (by decide)).trans s1754
  have s1792 := (fh1764 37 (by decide)).trans s1755
  have s1793 := (fh1764 38 (by decide)).trans s1756
  have s1794 := (fh1764 40 (by decide)).trans s1757
  have s1795 := (fh1764 49 (by decide)).trans s1758
  have s1796 := (fh1764 54 (by decide)).trans s1759
  have s1797 := (fh1764 55 (by decide)).trans s1760
  have s1798 := (fh1764 56 (by decide)).trans s1761
  refine gz_s 2 (pc' := 236) (L' := [some (.ref x), none, none, none, none]) (S' := [.int (zi 64), .ref x]) rfl ?_
  refine gs_newr 31 rfl (by decide) rfl sS1767.1 (Nat.le_of_lt (Nat.lt_of_le_of_lt (gJ.cell sS1767.1 t1706 rfl).1 (gJ.cell sS1767.1 t1706 rfl).2.1)) (by omega) (by omega) rfl rfl (by show (64 : Int) ≤ _; omega) (by show _ ≤ (64 : Int); omega) (fun _ _ => gos_i (by decide) (by decide)) (fun ty1799 h1800 c1801 g1802 tc1801 lc1801 nc1801 mc1801 ec1801 dc1801 uc1801 => ?_)
  have gac1801 : h.1 ≤ c1801 := by have h8 := G1766.2.1; have h9 := sS1767.2.1; omega
  have uq1803 := uc1801 uq1699 (Or.inr (gNo.sub (by decide) pr1762))
  have G1804 : gSg [1, 2, 3, 4, 5, 6, 7, 8, 9, 10, 11, 12, 13, 14, 15, 16, 17, 18, 19, 20, 21, 22, 23, 24, 25, 26, 27, 28, 29, 30, 31, 32, 33, 34, 35, 36, 37, 38, 39, 40, 41, 42, 200] [x] [8999, 10999, 31999] ty h ty1799 h1800 := gSg.tr (gSg.ss G1766 sS1767 (by decide)) g1802 (by decide) (by decide) (fun x hx => by cases hx)
  have rw1805 := gSg.raw g1802 rf1768 (fun w => by cases w)
  have rf1806 := (rw1805.2.2.1.trans kh1764)
  have rf1807 := (rw1805.2.2.2.trans rf1769)
  have dd1808 := gSg.rawd (ci := 12) (ps := [57, 56, 55, 54, 49, 40, 38, 37, 36, 35, 34, 33, 32, 31, 30, 29, 28, 27, 26, 25, 15, 14, 13, 12, 11, 10, 9, 4, 2]) g1802 rf1768 (fun w => by cases w) t1705 (by decide) dd1770
  have t1809 : ty1799 x = 200 := rw1805.1.trans t1705
  have t1810 : ty1799 c3 = 2 := gSg.typ g1802 sS1767.1 t1706 rfl
  have t1811 : ty1799 c23 = 3 := gSg.typ g1802 sS1767.1 t1707 rfl
  have t1812 : ty1799 c46 = 4 := gSg.typ g1802 sS1767.1 t1708 rfl
  have t1813 : ty1799 c72 = 5 := gSg.typ g1802 sS1767.1 t1709 rfl
  have t1814 : ty1799 c101 = 6 := gSg.typ g1802 sS1767.1 t1710 rfl
  have t1815 : ty1799 c133 = 7 := gSg.typ g1802 sS1767.1 t1711 rfl
  have t1816 : ty1799 c168 = 8 := gSg.typ g1802 sS1767.1 t1712 rfl
  have t1817 : ty1799 c206 = 9 := gSg.typ g1802 sS1767.1 t1713 rfl
  have t1818 : ty1799 c247 = 10 := gSg.typ g1802 sS1767.1 t1714 rfl
  have t1819 : ty1799 c291 = 11 := gSg.typ g1802 sS1767.1 t1715 rfl
  have t1820 : ty1799 c338 = 12 := gSg.typ g1802 sS1767.1 t1716 rfl
  have t1821 : ty1799 c388 = 13 := gSg.typ g1802 sS1767.1 t1717 rfl
  have t1822 : ty1799 c441 = 14 := gSg.typ g1802 sS1767.1 t1718 rfl
  have t1823 : ty1799 c497 = 15 := gSg.typ g1802 sS1767.1 t1719 rfl
  have t1824 : ty1799 c556 = 16 := gSg.typ g1802 sS1767.1 t1720 rfl
  have t1825 : ty1799 c618 = 17 := gSg.typ g1802 sS1767.1 t1721 rfl
  have t1826 : ty1799 c683 = 18 := gSg.typ g1802 sS1767.1 t1722 rfl
  have t1827 : ty1799 c751 = 19 := gSg.typ g1802 sS1767.1 t1723 rfl
  have t1828 : ty1799 c822 = 20 := gSg.typ g1802 sS1767.1 t1724 rfl
  have t1829 : ty1799 c896 = 21 := gSg.typ g1802 sS1767.1 t1725 rfl
  have t1830 : ty1799 c973 = 22 := gSg.typ g1802 sS1767.1 t1726 rfl
  have t1831 : ty1799 c1053 = 23 := gSg.typ g1802 sS1767.1 t1727 rfl
  have t1832 : ty1799 c1136 = 24 := gSg.typ g1802 sS1767.1 t1728 rfl
  have t1833 : ty1799 c1222 = 25 := gSg.typ g1802 sS1767.1 t1729 rfl
  have t1834 : ty1799 c1311 = 26 := gSg.typ g1802 sS1767.1 t1730 rfl
  have t1835 : ty1799 c1403 = 27 := gSg.typ g1802 sS1767.1 t1731 rfl
  have t1836 : ty1799 c1498 = 28 := gSg.typ g1802 sS1767.1 t1732 rfl
  have t1837 : ty1799 c1596 = 29 := gSg.typ g1802 sS1767.1 t1733 rfl
  have t1838 : ty1799 c1697 = 30 := gSg.typ g1802 sS1767.1 tc1697 rfl
  have s1839 := gSg.rawat g1802 rf1768 (fun w => by cases w) t1705 (by decide) s1771
  have s1840 := gSg.rawat g1802 rf1768 (fun w => by cases w) t1705 (by decide) s1772
  have s1841 := gSg.rawat g1802 rf1768 (fun w => by cases w) t1705 (by decide) s1773
  have s1842 := gSg.rawat g1802 rf1768 (fun w => by cases w) t1705 (by decide) s1774
  have s1843 := gSg.rawat g1802 rf1768 (fun w => by cases w) t1705 (by decide) s1775
  have s1844 := gSg.rawat g1802 rf1768 (fun w => by cases w) t1705 (by decide) s1776
  have s1845 := gSg.rawat g1802 rf1768 (fun w => by cases w) t1705 (by decide) s1777
  have s1846 := gSg.rawat g1802 rf1768 (fun w => by cases w) t1705 (by decide) s1778
  have s1847 := gSg.rawat g1802 rf1768 (fun w => by cases w) t1705 (by decide) s1779
  have s1848 := gSg.rawat g1802 rf1768 (fun w => by cases w) t1705 (by decide) s1780
  have s1849 := gSg.rawat g1802 rf1768 (fun w => by cases w) t1705 (by decide) s1781
  have s1850 := gSg.rawat g1802 rf1768 (fun w => by cases w) t1705 (by decide) s1782
  have s1851 := gSg.rawat g1802 rf1768 (fun w => by cases w) t1705 (by decide) s1783
  have s1852 := gSg.rawat g1802 rf1768 (fun w => by cases w) t1705 (by decide) s1784
  have s1853 := gSg.rawat g1802 rf1768 (fun w => by cases w) t1705 (by decide) s1785
  have s1854 := gSg.rawat g1802 rf1768 (fun w => by cases w) t1705 (by decide) s1786
  have s1855 := gSg.rawat g1802 rf1768 (fun w => by cases w) t1705 (by decide) s1787
  have s1856 := gSg.rawat g1802 rf1768 (fun w => by cases w) t1705 (by decide) s1788
  have s1857 := gSg.rawat g1802 rf1768 (fun w => by cases w) t1705 (by decide) s1789
  have s1858 := gSg.rawat g1802 rf1768 (fun w => by cases w) t1705 (by decide) s1790
  have s1859 := gSg.rawat g1802 rf1768 (fun w => by cases w) t1705 (by decide) s1791
  have s1860 := gSg.rawat g1802 rf1768 (fun w => by cases w) t1705 (by decide) s1792
  have s1861 := gSg.rawat g1802 rf1768 (fun w => by cases w) t1705 (by decide) s1793
  have s1862 := gSg.rawat g1802 rf1768 (fun w => by cases w) t1705 (by decide) s1794
  have s1863 := gSg.rawat g1802 rf1768 (fun w => by cases w) t1705 (by decide) s1795
  have s1864 := gSg.rawat g1802 rf1768 (fun w => by cases w) t1705 (by decide) s1796
  have s1865 := gSg.rawat g1802 rf1768 (fun w => by cases w) t1705 (by decide) s1797
  have s1866 := gSg.rawat g1802 rf1768 (fun w => by cases w) t1705 (by decide) s1798
  have s1867 := gSg.rawat g1802 rf1768 (fun w => by cases w) t1705 (by decide) eh1764
  have pr1868 : gNo [1, 32, 33, 34, 35, 36, 37, 38, 39, 40, 41, 42] ty1799 := gNo.gr g1802 (by decide) (gNo.sub (by decide) pr1762)
  have sS1869 : gSs rT 1027 ty1799 [8999, 10999, 31999] h1800 h1800 := gSs.rf g1802.1
  refine gs_rput rfl (by decide) rfl sS1869.1 t1809 nx rw1805.2.1 rf1806 rfl (Or.inr rfl) (fun h1870 g1871 nh1870 mh1870 kh1870 zh1870 eh1870 fh1870 => ?_)
  have G1872 : gSg [1, 2, 3, 4, 5, 6, 7, 8, 9, 10, 11, 12, 13, 14, 15, 16, 17, 18, 19, 20, 21, 22, 23, 24, 25, 26, 27, 28, 29, 30, 31, 32, 33, 34, 35, 36, 37, 38, 39, 40, 41, 42, 200] [x] [8999, 10999, 31999] ty h ty1799 h1870 := gSg.tr (gSg.ss G1804 sS1869 (by decide)) g1871 (by decide) (by decide) (fun x hx => Or.inr hx)
  have sS1873 : gSs rT 1027 ty1799 [8999, 10999, 31999] h1870 h1870 := gSs.rf g1871.1
  have rf1874 := Nat.lt_of_lt_of_eq rw1805.2.1 nh1870.symm
  have rf1875 := zh1870.trans rf1807
  have dd1876 : ∀ k, ¬ k ∈ ([58, 57, 56, 55, 54, 49, 40, 38, 37, 36, 35, 34, 33, 32, 31, 30, 29, 28, 27, 26, 25, 15, 14, 13, 12, 11, 10, 9, 4, 2] : List Nat) → h1870.2.2.2.2 x k = defaultValue (gGG.2.1 12 k) := raw_dp fh1870 dd1808
  have s1877 := (fh1870 2 (by decide)).trans s1839
  have s1878 := (fh1870 4 (by decide)).trans s1840
  have s1879 := (fh1870 9 (by decide)).trans s1841
  have s1880 := (fh1870 10 (by decide)).trans s1842
  have s1881 := (fh1870 11 (by decide)).trans s1843
  have s1882 := (fh1870 12 (by decide)).trans s1844
  have s1883 := (fh1870 13 (by decide)).trans s1845
  have s1884 := (fh1870 14 (by decide)).trans s1846
  have s1885 := (fh1870 15 (by decide)).trans s1847
  have s1886 := (fh1870 25 (by decide)).trans s1848
  have s1887 := (fh1870 26 (by decide)).trans s1849
  have s1888 := (fh1870 27 (by decide)).trans s1850
  have s1889 := (fh1870 28 (by decide)).trans s1851
  have s1890 := (fh1870 29 (by decide)).trans s1852
  have s1891 := (fh1870 30 (by decide)).trans s1853
  have s1892 := (fh1870 31 (by decide)).trans s1854
  have s1893 := (fh1870 32 (by decide)).trans s1855
  have s1894 := (fh1870 33 (by decide)).trans s1856
  have s1895 := (fh1870 34 (by decide)).trans s1857
  have s1896 := (fh1870 35 (by decide)).trans s1858
  have s1897 := (fh1870 36 (by decide)).trans s1859
  have s1898 := (fh1870 37 (by decide)).trans s1860
  have s1899 := (fh1870 38 (by decide)).trans s1861
  have s1900 := (fh1870 40 (by decide)).trans s1862
  have s1901 := (fh1870 49 (by decide)).trans s1863
  have s1902 := (fh1870 54 (by decide)).trans s1864
  have s1903 := (fh1870 55 (by decide)).trans s1865
  have s1904 := (fh1870 56 (by decide)).trans s1866
  have s1905 := (fh1870 57 (by decide)).trans s1867
  refine gz_s 1 (pc' := 242) (L' := [some (.ref x), none, none, none, none]) (S' := [.ref x]) rfl ?_
  refine gz_1 rfl (by decide) rfl rfl (pc' := 244) (S' := [.int (zi 60000), .ref x]) (h' := h1870) rfl ?_
  refine gs_newr 32 rfl (by decide) rfl sS1873.1 (Nat.le_of_lt (Nat.lt_of_le_of_lt (gJ.cell sS1873.1 t1810 rfl).1 (gJ.cell sS1873.1 t1810 rfl).2.1)) (by omega) (by omega) rfl rfl (by show (60000 : Int) ≤ _; omega) (by show _ ≤ (60000 : Int); omega) (fun _ _ => gos_i (by decide) (by decide)) (fun ty1906 h1907 c1908 g1909 tc1908 lc1908 nc1908 mc1908 ec1908 dc1908 uc1908 => ?_)
  have gac1908 : h.1 ≤ c1908 := by have h8 := G1872.2.1; have h9 := sS1873.2.1; omega
  have uq1910 := uc1908 uq1803 (Or.inr (gNo.sub (by decide) pr1868))
  have G1911 : gSg [1, 2, 3, 4, 5, 6, 7, 8, 9, 10, 11, 12, 13, 14, 15, 16, 17, 18, 19, 20, 21, 22, 23, 24, 25, 26, 27, 28, 29, 30, 31, 32, 33, 34, 35, 36, 37, 38, 39, 40, 41, 42, 200] [x] [8999, 10999, 31999] ty h ty1906 h1907 := gSg.tr (gSg.ss G1872 sS1873 (by decide)) g1909 (by decide) (by decide) (fun x hx => by cases hx)
  have rw1912 := gSg.raw g1909 rf1874 (fun w => by cases w)
  have rf1913 := (rw1912.2.2.1.trans kh1870)
  have rf1914 := (rw1912.2.2.2.trans rf1875)
  have dd1915 := gSg.rawd (ci := 12) (ps := [58, 57, 56, 55, 54, 49, 40, 38, 37, 36, 35, 34, 33, 32, 31, 30, 29, 28, 27, 26, 25, 15, 14, 13, 12, 11, 10, 9, 4, 2]) g1909 rf1874 (fun w => by cases w) t1809 (by decide) dd1876
  have t1916 : ty1906 x = 200 := rw1912.1.trans t1809
  have t1917 : ty1906 c3 = 2 := gSg.typ g1909 sS1873.1 t1810 rfl
  have t1918 : ty1906 c23 = 3 := gSg.typ g1909 sS1873.1 t1811 rfl
  have t1919 : ty1906 c46 = 4 := gSg.typ g1909 sS1873.1 t1812 rfl
  have t1920 : ty1906 c72 = 5 := gSg.typ g1909 sS1873.1 t1813 rfl
  have t1921 : ty1906 c101 = 6 := gSg.typ g1909 sS1873.1 t1814 rfl
  have t1922 : ty1906 c133 = 7 := gSg.typ g1909 sS1873.1 t1815 rfl
  have t1923 : ty1906 c168 = 8 := gSg.typ g1909 sS1873.1 t1816 rfl
  have t1924 : ty1906 c206 = 9 := gSg.typ g1909 sS1873.1 t1817 rfl
  have t1925 : ty1906 c247 = 10 := gSg.typ g1909 sS1873.1 t1818 rfl
  have t1926 : ty1906 c291 = 11 := gSg.typ g1909 sS1873.1 t1819 rfl
  have t1927 : ty1906 c338 = 12 := gSg.typ g1909 sS1873.1 t1820 rfl
  have t1928 : ty1906 c388 = 13 := gSg.typ g1909 sS1873.1 t1821 rfl
  have t1929 : ty1906 c441 = 14 := gSg.typ g1909 sS1873.1 t1822 rfl
  have t1930 : ty1906 c497 = 15 := gSg.typ g1909 sS1873.1 t1823 rfl
  have t1931 : ty1906 c556 = 16 := gSg.typ g1909 sS1873.1 t1824 rfl
  have t1932 : ty1906 c618 = 17 := gSg.typ g1909 sS1873.1 t1825 rfl
  have t1933 : ty1906 c683 = 18 := gSg.typ g1909 sS1873.1 t1826 rfl
  have t1934 : ty1906 c751 = 19 := gSg.typ g1909 sS1873.1 t1827 rfl
  have t1935 : ty1906 c822 = 20 := gSg.typ g1909 sS1873.1 t1828 rfl
  have t1936 : ty1906 c896 = 21 := gSg.typ g1909 sS1873.1 t1829 rfl
  have t1937 : ty1906 c973 = 22 := gSg.typ g1909 sS1873.1 t1830 rfl
  have t1938 : ty1906 c1053 = 23 := gSg.typ g1909 sS1873.1 t1831 rfl
  have t1939 : ty1906 c1136 = 24 := gSg.typ g1909 sS1873.1 t1832 rfl
  have t1940 : ty1906 c1222 = 25 := gSg.typ g1909 sS1873.1 t1833 rfl
  have t1941 : ty1906 c1311 = 26 := gSg.typ g1909 sS1873.1 t1834 rfl
  have t1942 : ty1906 c1403 = 27 := gSg.typ g1909 sS1873.1 t1835 rfl
  have t1943 : ty1906 c1498 = 28 := gSg.typ g1909 sS1873.1 t1836 rfl
  have t1944 : ty1906 c1596 = 29 := gSg.typ g1909 sS1873.1 t1837 rfl
  have t1945 : ty1906 c1697 = 30 := gSg.typ g1909 sS1873.1 t1838 rfl
  have t1946 : ty1906 c1801 = 31 := gSg.typ g1909 sS1873.1 tc1801 rfl
  have s1947 := gSg.rawat g1909 rf1874 (fun w => by cases w) t1809 (by decide) s1877
  have s1948 := gSg.rawat g1909 rf1874 (fun w => by cases w) t1809 (by decide) s1878
  have s1949 := gSg.rawat g1909 rf1874 (fun w => by cases w) t1809 (by decide) s1879
  have s1950 := gSg.rawat g1909 rf1874 (fun w => by cases w) t1809 (by decide) s1880
  have s1951 := gSg.rawat g1909 rf1874 (fun w => by cases w) t1809 (by decide) s1881
  have s1952 := gSg.rawat g1909 rf1874 (fun w => by cases w) t1809 (by decide) s1882
  have s1953 := gSg.rawat g1909 rf1874 (fun w => by cases w) t1809 (by decide) s1883
  have s1954 := gSg.rawat g1909 rf1874 (fun w => by cases w) t1809 (by decide) s1884
  have s1955 := gSg.rawat g1909 rf1874 (fun w => by cases w) t1809 (by decide) s1885
  have s1956 := gSg.rawat g1909 rf1874 (fun w => by cases w) t1809 (by decide) s1886
  have s1957 := gSg.rawat g1909 rf1874 (fun w => by cases w) t1809 (by decide) s1887
  have s1958 := gSg.rawat g1909 rf1874 (fun w => by cases w) t1809 (by decide) s1888
  have s1959 := gSg.rawat g1909 rf1874 (fun w => by cases w) t1809 (by decide) s1889
  have s1960 := gSg.rawat g1909 rf1874 (fun w => by cases w) t1809 (by decide) s1890
  have s1961 := gSg.rawat g1909 rf1874 (fun w => by cases w) t1809 (by decide) s1891
  have s1962 := gSg.rawat g1909 rf1874 (fun w => by cases w) t1809 (by decide) s1892
  have s1963 := gSg.rawat g1909 rf1874 (fun w => by cases w) t1809 (by decide) s1893
  have s1964 := gSg.rawat g1909 rf1874 (fun w => by cases w) t1809 (by decide) s1894
  have s1965 := gSg.rawat g1909 rf1874 (fun w => by cases w) t1809 (by decide) s1895
  have s1966 := gSg.rawat g1909 rf1874 (fun w => by cases w) t1809 (by decide) s1896
  have s1967 := gSg.rawat g1909 rf1874 (fun w => by cases w) t1809 (by decide) s1897
  have s1968 := gSg.rawat g1909 rf1874 (fun w => by cases w) t1809 (by decide) s1898
  have s1969 := gSg.rawat g1909 rf1874 (fun w => by cases w) t1809 (by decide) s1899
  have s1970 := gSg.rawat g1909 rf1874 (fun w => by cases w) t1809 (by decide) s1900
  have s1971 := gSg.rawat g1909 rf1874 (fun w => by cases w) t1809 (by decide) s1901
  have s1972 := gSg.rawat g1909 rf1874 (fun w => by cases w) t1809 (by decide) s1902
  have s1973 := gSg.rawat g1909 rf1874 (fun w => by cases w) t1809 (by decide) s1903
  have s1974 := gSg.rawat g1909 rf1874 (fun w => by cases w) t1809 (by decide) s1904
  have s1975 := gSg.rawat g1909 rf1874 (fun w => by cases w) t1809 (by decide) s1905
  have s1976 := gSg.rawat g1909 rf1874 (fun w => by cases w) t1809 (by decide) eh1870
  have pr1977 : gNo [1, 33, 34, 35, 36, 37, 38, 39, 40, 41, 42] ty1906 := gNo.gr g1909 (by decide) (gNo.sub (by decide) pr1868)
  have sS1978 : gSs rT 1027 ty1906 [8999, 10999, 31999] h1907 h1907 := gSs.rf g1909.1
  refine gs_rput rfl (by decide) rfl sS1978.1 t1916 nx rw1912.2.1 rf1913 rfl (Or.inr rfl) (fun h1979 g1980 nh1979 mh1979 kh1979 zh1979 eh1979 fh1979 => ?_)
  have G1981 : gSg [1, 2, 3, 4, 5, 6, 7, 8, 9, 10, 11, 12, 13, 14, 15, 16, 17, 18, 19, 20, 21, 22, 23, 24, 25, 26, 27, 28, 29, 30, 31, 32, 33, 34, 35, 36, 37, 38, 39, 40, 41, 42, 200] [x] [8999, 10999, 31999] ty h ty1906 h1979 := gSg.tr (gSg.ss G1911 sS1978 (by decide)) g1980 (by decide) (by decide) (fun x hx => Or.inr hx)
  have sS1982 : gSs rT 1027 ty1906 [8999, 10999, 31999] h1979 h1979 := gSs.rf g1980.1
  have rf1983 := Nat.lt_of_lt_of_eq rw1912.2.1 nh1979.symm
  have rf1984 := zh1979.trans rf1914
  have dd1985 : ∀ k, ¬ k ∈ ([60, 58, 57, 56, 55, 54, 49, 40, 38, 37, 36, 35, 34, 33, 32, 31, 30, 29, 28, 27, 26, 25, 15, 14, 13, 12, 11, 10, 9, 4, 2] : List Nat) → h1979.2.2.2.2 x k = defaultValue (gGG.2.1 12 k) := raw_dp fh1979 dd1915
  have s1986 := (fh1979 2 (by decide)).trans s1947
  have s1987 := (fh1979 4 (by decide)).trans s1948
  have s1988 := (fh1979 9 (by decide)).trans s1949
  have s1989 := (fh1979 10 (by decide)).trans s1950
  have s1990 := (fh1979 11 (by decide)).trans s1951
  have s1991 := (fh1979 12 (by decide)).trans s1952
  have s1992 := (fh1979 13 (by decide)).trans s1953
  have s1993 := (fh1979 14 (by decide)).trans s1954
  have s1994 := (fh1979 15 (by decide)).trans s1955
  have s1995 := (fh1979 25 (by decide)).trans s1956
  have s1996 := (fh1979 26 (by decide)).trans s1957
  have s1997 := (fh1979 27 (by decide)).trans s1958
  have s1998 := (fh1979 28 (by decide)).trans s1959
  have s1999 := (fh1979 29 (by decide)).trans s1960
  have s2000 := (fh1979 30 (by decide)).trans s1961
  have s2001 := (fh1979 31 (by decide)).trans s1962
  have s2002 := (fh1979 32 (by decide)).trans s1963
  have s2003 := (fh1979 33 (by decide)).trans s1964
  have s2004 := (fh1979 34 (by decide)).trans s1965
  have s2005 := (fh1979 35 (by decide)).trans s1966
  have s2006 := (fh1979 36 (by decide)).trans s1967
  have s2007 := (fh1979 37 (by decide)).trans s1968
  have s2008 := (fh1979 38 (by decide)).trans s1969
  have s2009 := (fh1979 40 (by decide)).trans s1970
  have s2010 := (fh1979 49 (by decide)).trans s1971
  have s2011 := (fh1979 54 (by decide)).trans s1972
  have s2012 := (fh1979 55 (by decide)).trans s1973
  have s2013 := (fh1979 56 (by decide)).trans s1974
  have s2014 := (fh1979 57 (by decide)).trans s1975
  have s2015 := (fh1979 58 (by decide)).trans s1976
  refine gz_s 2 (pc' := 253) (L' := [some (.ref x), none, none, none, none]) (S' := [.int (zi 1024), .ref x]) rfl ?_
  refine gs_newr 33 rfl (by decide) rfl sS1982.1 (Nat.le_of_lt (Nat.lt_of_le_of_lt (gJ.cell sS1982.1 t1917 rfl).1 (gJ.cell sS1982.1 t1917 rfl).2.1)) (by omega) (by omega) rfl rfl (by show (1024 : Int) ≤ _; omega) (by show _ ≤ (1024 : Int); omega) (fun _ _ => gos_i (by decide) (by decide)) (fun ty2016 h2017 c2018 g2019 tc2018 lc2018 nc2018 mc2018 ec2018 dc2018 uc2018 => ?_)
  have gac2018 : h.1 ≤ c2018 := by have h8 := G1981.2.1; have h9 := sS1982.2.1; omega
  have uq2020 := uc2018 uq1910 (Or.inr (gNo.sub (by decide) pr1977))
  have G2021 : gSg [1, 2, 3, 4, 5, 6, 7, 8, 9, 10, 11, 12, 13, 14, 15, 16, 17, 18, 19, 20, 21, 22, 23, 24, 25, 26, 27, 28, 29, 30, 31, 32, 33, 34, 35, 36, 37, 38, 39, 40, 41, 42, 200] [x] [8999, 10999, 31999] ty h ty2016 h2017 := gSg.tr (gSg.ss G1981 sS1982 (by decide)) g2019 (by decide) (by decide) (fun x hx => by cases hx)
  have rw2022 := gSg.raw g2019 rf1983 (fun w => by cases w)
  have rf2023 := (rw2022.2.2.1.trans kh1979)
  have rf2024 := (rw2022.2.2.2.trans rf1984)
  have dd2025 := gSg.rawd (ci := 12) (ps := [60, 58, 57, 56, 55, 54, 49, 40, 38, 37, 36, 35, 34, 33, 32, 31, 30, 29, 28, 27, 26, 25, 15, 14, 13, 12, 11, 10, 9, 4, 2]) g2019 rf1983 (fun w => by cases w) t1916 (by decide) dd1985
  have t2026 : ty2016 x = 200 := rw2022.1.trans t1916
  have t2027 : ty2016 c3 = 2 := gSg.typ g2019 sS1982.1 t1917 rfl
  have t2028 : ty2016 c23 = 3 := gSg.typ g2019 sS1982.1 t1918 rfl
  have t2029 : ty2016 c46 = 4 := gSg.typ g2019 sS1982.1 t1919 rfl
  have t2030 : ty2016 c72 = 5 := gSg.typ g2019 sS1982.1 t1920 rfl
  have t2031 : ty2016 c101 = 6 := gSg.typ g2019 sS1982.1 t1921 rfl
  have t2032 : ty2016 c133 = 7 := gSg.typ g2019 sS1982.1 t1922 rfl
  have t2033 : ty2016 c168 = 8 := gSg.typ g2019 sS1982.1 t1923 rfl
  have t2034 : ty2016 c206 = 9 := gSg.typ g2019 sS1982.1 t1924 rfl
  have t2035 : ty2016 c247 = 10 := gSg.typ g2019 sS1982.1 t1925 rfl
  have t2036 : ty2016 c291 = 11 := gSg.typ g2019 sS1982.1 t1926 rfl
  have t2037 : ty2016 c338 = 12 := gSg.typ g2019 sS1982.1 t1927 rfl
  have t2038 : ty2016 c388 = 13 := gSg.typ g2019 sS1982.1 t1928 rfl
  have t2039 : ty2016 c441 = 14 := gSg.typ g2019 sS1982.1 t1929 rfl
  have t2040 : ty2016 c497 = 15 := gSg.typ g2019 sS1982.1 t1930 rfl
  have t2041 : ty2016 c556 = 16 := gSg.typ g2019 sS1982.1 t1931 rfl
  have t2042 : ty2016 c618 = 17 := gSg.typ g2019 sS1982.1 t1932 rfl
  have t2043 : ty2016 c683 = 18 := gSg.typ g2019 sS1982.1 t1933 rfl
  have t2044 : ty2016 c751 = 19 := gSg.typ g2019 sS1982.1 t1934 rfl
  have t2045 : ty2016 c822 = 20 := gSg.typ g2019 sS1982.1 t1935 rfl
  have t2046 : ty2016 c896 = 21 := gSg.typ g2019 sS1982.1 t1936 rfl
  have t2047 : ty2016 c973 = 22 := gSg.typ g2019 sS1982.1 t1937 rfl
  have t2048 : ty2016 c1053 = 23 := gSg.typ g2019 sS1982.1 t1938 rfl
  have t2049 : ty2016 c1136 = 24 := gSg.typ g2019 sS1982.1 t1939 rfl
  have t2050 : ty2016 c1222 = 25 := gSg.typ g2019 sS1982.1 t1940 rfl
  have t2051 : ty2016 c1311 = 26 := gSg.typ g2019 sS1982.1 t1941 rfl
  have t2052 : ty2016 c1403 = 27 := gSg.typ g2019 sS1982.1 t1942 rfl
  have t2053 : ty2016 c1498 = 28 := gSg.typ g2019 sS1982.1 t1943 rfl
  have t2054 : ty2016 c1596 = 29 := gSg.typ g2019 sS1982.1 t1944 rfl
  have t2055 : ty2016 c1697 = 30 := gSg.typ g2019 sS1982.1 t1945 rfl
  have t2056 : ty2016 c1801 = 31 := gSg.typ g2019 sS1982.1 t1946 rfl
  have t2057 : ty2016 c1908 = 32 := gSg.typ g2019 sS1982.1 tc1908 rfl
  have s2058 := gSg.rawat g2019 rf1983 (fun w => by cases w) t1916 (by decide) s1986
  have s2059 := gSg.rawat g2019 rf1983 (fun w => by cases w) t1916 (by decide) s1987
  have s2060 := gSg.rawat g2019 rf1983 (fun w => by cases w) t1916 (by decide) s1988
  have s2061 := gSg.rawat g2019 rf1983 (fun w => by cases w) t1916 (by decide) s1989
  have s2062 := gSg.rawat g2019 rf1983 (fun w => by cases w) t1916 (by decide) s1990
  have s2063 := gSg.rawat g2019 rf1983 (fun w => by cases w) t1916 (by decide) s1991
  have s2064 := gSg.rawat g2019 rf1983 (fun w => by cases w) t1916 (by decide) s1992
  have s2065 := gSg.rawat g2019 rf1983 (fun w => by cases w) t1916 (by decide) s1993
  have s2066 := gSg.rawat g2019 rf1983 (fun w => by cases w) t1916 (by decide) s1994
  have s2067 := gSg.rawat g2019 rf1983 (fun w => by cases w) t1916 (by decide) s1995
  have s2068 := gSg.rawat g2019 rf1983 (fun w => by cases w) t1916 (by decide) s1996
  have s2069 := gSg.rawat g2019 rf1983 (fun w => by cases w) t1916 (by decide) s1997
  have s2070 := gSg.rawat g2019 rf1983 (fun w => by cases w) t1916 (by decide) s1998
  have s2071 := gSg.rawat g2019 rf1983 (fun w => by cases w) t1916 (by decide) s1999
  have s2072 := gSg.rawat g2019 rf1983 (fun w => by cases w) t1916 (by decide) s2000
  have s2073 := gSg.rawat g2019 rf1983 (fun w => by cases w) t1916 (by decide) s2001
  have s2074 := gSg.rawat g2019 rf1983 (fun w => by cases w) t1916 (by decide) s2002
  have s2075 := gSg.rawat g2019 rf1983 (fun w => by cases w) t1916 (by decide) s2003
  have s2076 := gSg.rawat g2019 rf1983 (fun w => by cases w) t1916 (by decide) s2004
  have s2077 := gSg.rawat g2019 rf1983 (fun w => by cases w) t1916 (by decide) s2005
  have s2078 := gSg.rawat g2019 rf1983 (fun w => by cases w) t1916 (by decide) s2006
  have s2079 := gSg.rawat g2019 rf1983 (fun w => by cases w) t1916 (by decide) s2007
  have s2080 := gSg.rawat g2019 rf1983 (fun w => by cases w) t1916 (by decide) s2008
  have s2081 := gSg.rawat g2019 rf1983 (fun w => by cases w) t1916 (by decide) s2009
  have s2082 := gSg.rawat g2019 rf1983 (fun w => by cases w) t1916 (by decide) s2010
  have s2083 := gSg.rawat g2019 rf1983 (fun w => by cases w) t1916 (by decide) s2011
  have s2084 := gSg.rawat g2019 rf1983 (fun w => by cases w) t1916 (by decide) s2012
  have s2085 := gSg.rawat g2019 rf1983 (fun w => by cases w) t1916 (by decide) s2013
  have s2086 := gSg.rawat g2019 rf1983 (fun w => by cases w) t1916 (by decide) s2014
  have s2087 := gSg.rawat g2019 rf1983 (fun w => by cases w) t1916 (by decide) s2015
  have s2088 := gSg.rawat g2019 rf1983 (fun w => by cases w) t1916 (by decide) eh1979
  have pr2089 : gNo [1, 34, 35, 36, 37, 38, 39, 40, 41, 42] ty2016 := gNo.gr g2019 (by decide) (gNo.sub (by decide) pr1977)
  have sS2090 : gSs rT 1027 ty2016 [8999, 10999, 31999] h2017 h2017 := gSs.rf g2019.1
  refine gs_rput rfl (by decide) rfl sS2090.1 t2026 nx rw2022.2.1 rf2023 rfl (Or.inr rfl) (fun h2091 g2092 nh2091 mh2091 kh2091 zh2091 eh2091 fh2091 => ?_)
  have G2093 : gSg [1, 2, 3, 4, 5, 6, 7, 8, 9, 10, 11, 12, 13, 14, 15, 16, 17, 18, 19, 20, 21, 22, 23, 24, 25, 26, 27, 28, 29, 30, 31, 32, 33, 34, 35, 36, 37, 38, 39, 40, 41, 42, 200] [x] [8999, 10999, 31999] ty h ty2016 h2091 := gSg.tr (gSg.ss G2021 sS2090 (by decide)) g2092 (by decide) (by decide) (fun x hx => Or.inr hx)
  have sS2094 : gSs rT 1027 ty2016 [8999, 10999, 31999] h2091 h2091 := gSs.rf g2092.1
  have rf2095 := Nat.lt_of_lt_of_eq rw2022.2.1 nh2091.symm
  have rf2096 := zh2091.trans rf2024
  have dd2097 : ∀ k, ¬ k ∈ ([63, 60, 58, 57, 56, 55, 54, 49, 40, 38, 37, 36, 35, 34, 33, 32, 31, 30, 29, 28, 27, 26, 25, 15, 14, 13, 12, 11, 10, 9, 4, 2] : List Nat) → h2091.2.2.2.2 x k = defaultValue (gGG.2.1 12 k) := raw_dp fh2091 dd2025
  have s2098 := (fh2091 2 (by decide)).trans s2058
  have s2099 := (fh2091 4 (by decide)).trans s2059
  have s2100 := (fh2091 9 (by decide)).trans s2060
  have s2101 := (fh2091 10 (by decide)).trans s2061
  have s2102 := (fh2091 11 (by decide)).trans s2062
  have s2103 := (fh2091 12 (by decide)).trans s2063
  have s2104 := (fh2091 13 (by decide)).trans s2064
  have s2105 := (fh2091 14 (by decide)).trans s2065
  have s2106 := (fh2091 15 (by decide)).trans s2066
  have s2107 := (fh2091 25 (by decide)).trans s2067
  have s2108 := (fh2091 26 (by decide)).trans s2068
  have s2109 := (fh2091 27 (by decide)).trans s2069
  have s2110 := (fh2091 28 (by decide)).trans s2070
  have s2111 := (fh2091 29 (by decide)).trans s2071
  have s2112 := (fh2091 30 (by decide)).trans s2072
  have s2113 := (fh2091 31 (by decide)).trans s2073
  have s2114 := (fh2091 32 (by decide)).trans s2074
  have s2115 := (fh2091 33 (by decide)).trans s2075
  have s2116 := (fh2091 34 (by decide)).trans s2076
  have s2117 := (fh2091 35 (by decide)).trans s2077
  have s2118 := (fh2091 36 (by decide)).trans s2078
  have s2119 := (fh2091 37 (by decide)).trans s2079
  have s2120 := (fh2091 38 (by decide)).trans s2080
  have s2121 := (fh2091 40 (by decide)).trans s2081
  have s2122 := (fh2091 49 (by decide)).trans s2082
  have s2123 := (fh2091 54 (by decide)).trans s2083
  have s2124 := (fh2091 55 (by decide)).trans s2084
  have s2125 := (fh2091 56 (by decide)).trans s2085
  have s2126 := (fh2091 57 (by decide)).trans s2086
  have s2127 := (fh2091 58 (by decide)).trans s2087
  have s2128 := (fh2091 60 (by decide)).trans s2088
  refine gz_s 2 (pc' := 261) (L' := [some (.ref x), none, none, none, none]) (S' := [.int (zi 64), .ref x]) rfl ?_
  refine gs_newr 34 rfl (by decide) rfl sS2094.1 (Nat.le_of_lt (Nat.lt_of_le_of_lt (gJ.cell sS2094.1 t2027 rfl).1 (gJ.cell sS2094.1 t2027 rfl).2.1)) (by omega) (by omega) rfl rfl (by show (64 : Int) ≤ _; omega) (by show _ ≤ (64 : Int); omega) (fun _ _ => gos_i (by decide) (by decide)) (fun ty2129 h2130 c2131 g2132 tc2131 lc2131 nc2131 mc2131 ec2131 dc2131 uc2131 => ?_)
  have gac2131 : h.1 ≤ c2131 := by have h8 := G2093.2.1; have h9 := sS2094.2.1; omega
  have uq2133 := uc2131 uq2020 (Or.inr (gNo.sub (by decide) pr2089))
  have G2134 : gSg [1, 2, 3, 4, 5, 6, 7, 8, 9, 10, 11, 12, 13, 14, 15, 16, 17, 18, 19, 20, 21, 22, 23, 24, 25, 26, 27, 28, 29, 30, 31, 32, 33, 34, 35, 36, 37, 38, 39, 40, 41, 42, 200] [x] [8999, 10999, 31999] ty h ty2129 h2130 := gSg.tr (gSg.ss G2093 sS2094 (by decide)) g2132 (by decide) (by decide) (fun x hx => by cases hx)
  have rw2135 := gSg.raw g2132 rf2095 (fun w => by cases w)
  have rf2136 := (rw2135.2.2.1.trans kh2091)
  have rf2137 := (rw2135.2.2.2.trans rf2096)
  have dd2138 := gSg.rawd (ci := 12) (ps := [63, 60, 58, 57, 56, 55, 54, 49, 40, 38, 37, 36, 35, 34, 33, 32, 31, 30, 29, 28, 27, 26, 25, 15, 14, 13, 12, 11, 10, 9, 4, 2]) g2132 rf2095 (fun w => by cases w) t2026 (by decide) dd2097
  have t2139 : ty2129 x = 200 := rw2135.1.trans t2026
  have t2140 : ty2129 c3 = 2 := gSg.typ g2132 sS2094.1 t2027 rfl
  have t2141 : ty2129 c23 = 3 := gSg.typ g2132 sS2094.1 t2028 rfl
  have t2142 : ty2129 c46 = 4 := gSg.typ g2132 sS2094.1 t2029 rfl
  have t2143 : ty2129 c72 = 5 := gSg.typ g2132 sS2094.1 t2030 rfl
  have t2144 : ty2129 c101 = 6 := gSg.typ g2132 sS2094.1 t2031 rfl
  have t2145 : ty2129 c133 = 7 := gSg.typ g2132 sS2094.1 t2032 rfl
  have t2146 : ty2129 c168 = 8 := gSg.typ g2132 sS2094.1 t2033 rfl
  have t2147 : ty2129 c206 = 9 := gSg.typ g2132 sS2094.1 t2034 rfl
  have t2148 : ty2129 c247 = 10 := gSg.typ g2132 sS2094.1 t2035 rfl
  have t2149 : ty2129 c291 = 11 := gSg.typ g2132 sS2094.1 t2036 rfl
  have t2150 : ty2129 c338 = 12 := gSg.typ g2132 sS2094.1 t2037 rfl
  have t2151 : ty2129 c388 = 13 := gSg.typ g2132 sS2094.1 t2038 rfl
  have t2152 : ty2129 c441 = 14 := gSg.typ g2132 sS2094.1 t2039 rfl
  have t2153 : ty2129 c497 = 15 := gSg.typ g2132 sS2094.1 t2040 rfl
  have t2154 : ty2129 c556 = 16 := gSg.typ g2132 sS2094.1 t2041 rfl
  have t2155 : ty2129 c618 = 17 := gSg.typ g2132 sS2094.1 t2042 rfl
  have t2156 : ty2129 c683 = 18 := gSg.typ g2132 sS2094.1 t2043 rfl
  have t2157 : ty2129 c751 = 19 := gSg.typ g2132 sS2094.1 t2044 rfl
  have t2158 : ty2129 c822 = 20 := gSg.typ g2132 sS2094.1 t2045 rfl
  have t2159 : ty2129 c896 = 21 := gSg.typ g2132 sS2094.1 t2046 rfl
  have t2160 : ty2129 c973 = 22 := gSg.typ g2132 sS2094.1 t2047 rfl
  have t2161 : ty2129 c1053 = 23 := gSg.typ g2132 sS2094.1 t2048 rfl
  have t2162 : ty2129 c1136 = 24 := gSg.typ g2132 sS2094.1 t2049 rfl
  have t2163 : ty2129 c1222 = 25 := gSg.typ g2132 sS2094.1 t2050 rfl
  have t2164 : ty2129 c1311 = 26 := gSg.typ g2132 sS2094.1 t2051 rfl
  have t2165 : ty2129 c1403 = 27 := gSg.typ g2132 sS2094.1 t2052 rfl
  have t2166 : ty2129 c1498 = 28 := gSg.typ g2132 sS2094.1 t2053 rfl
  have t2167 : ty2129 c1596 = 29 := gSg.typ g2132 sS2094.1 t2054 rfl
  have t2168 : ty2129 c1697 = 30 := gSg.typ g2132 sS2094.1 t2055 rfl
  have t2169 : ty2129 c1801 = 31 := gSg.typ g2132 sS2094.1 t2056 rfl
  have t2170 : ty2129 c1908 = 32 := gSg.typ g2132 sS2094.1 t2057 rfl
  have t2171 : ty2129 c2018 = 33 := gSg.typ g2132 sS2094.1 tc2018 rfl
  have s2172 := gSg.rawat g2132 rf2095 (fun w => by cases w) t2026 (by decide) s2098
  have s2173 := gSg.rawat g2132 rf2095 (fun w => by cases w) t2026 (by decide) s2099
  have s2174 := gSg.rawat g2132 rf2095 (fun w => by cases w) t2026 (by decide) s2100
  have s2175 := gSg.rawat g2132 rf2095 (fun w => by cases w) t2026 (by decide) s2101
  have s2176 := gSg.rawat g2132 rf2095 (fun w => by cases w) t2026 (by decide) s2102
  have s2177 := gSg.rawat g2132 rf2095 (fun w => by cases w) t2026 (by decide) s2103
  have s2178 := gSg.rawat g2132 rf2095 (fun w => by cases w) t2026 (by decide) s2104
  have s2179 := gSg.rawat g2132 rf2095 (fun w => by cases w) t2026 (by decide) s2105
  have s2180 := gSg.rawat g2132 rf2095 (fun w => by cases w) t2026 (by decide) s2106
  have s2181 := gSg.rawat g2132 rf2095 (fun w => by cases w) t2026 (by decide) s2107
  have s2182 := gSg.rawat g2132 rf2095 (fun w => by cases w) t2026 (by decide) s2108
  have s2183 := gSg.rawat g2132 rf2095 (fun w => by cases w) t2026 (by decide) s2109
  have s2184 := gSg.rawat g2132 rf2095 (fun w => by cases w) t2026 (by decide) s2110
  have s2185 := gSg.rawat g2132 rf2095 (fun w => by cases w) t2026 (by decide) s2111
  have s2186 := gSg.rawat g2132 rf2095 (fun w => by cases w) t2026 (by decide) s2112
  have s2187 := gSg.rawat g2132 rf2095 (fun w => by cases w) t2026 (by decide) s2113
  have s2188 := gSg.rawat g2132 rf2095 (fun w => by cases w) t2026 (by decide) s2114
  have s2189 := gSg.rawat g2132 rf2095 (fun w => by cases w) t2026 (by decide) s2115
  have s2190 := gSg.rawat g2132 rf2095 (fun w => by cases w) t2026 (by decide) s2116
  have s2191 := gSg.rawat g2132 rf2095 (fun w => by cases w) t2026 (by decide) s2117
  have s2192 := gSg.rawat g2132 rf2095 (fun w => by cases w) t2026 (by decide) s2118
  have s2193 := gSg.rawat g2132 rf2095 (fun w => by cases w) t2026 (by decide) s2119
  have s2194 := gSg.rawat g2132 rf2095 (fun w => by cases w) t2026 (by decide) s2120
  have s2195 := gSg.rawat g2132 rf2095 (fun w => by cases w) t2026 (by decide) s2121
  have s2196 := gSg.rawat g2132 rf2095 (fun w => by cases w) t2026 (by decide) s2122
  have s2197 := gSg.rawat g2132 rf2095 (fun w => by cases w) t2026 (by decide) s2123
  have s2198 := gSg.rawat g2132 rf2095 (fun w => by cases w) t2026 (by decide) s2124
  have s2199 := gSg.rawat g2132 rf2095 (fun w => by cases w) t2026 (by decide) s2125
  have s2200 := gSg.rawat g2132 rf2095 (fun w => by cases w) t2026 (by decide) s2126
  have s2201 := gSg.rawat g2132 rf2095 (fun w => by cases w) t2026 (by decide) s2127
  have s2202 := gSg.rawat g2132 rf2095 (fun w => by cases w) t2026 (by decide) s2128
  have s2203 := gSg.rawat g2132 rf2095 (fun w => by cases w) t2026 (by decide) eh2091
  have pr2204 : gNo [1, 35, 36, 37, 38, 39, 40, 41, 42] ty2129 := gNo.gr g2132 (by decide) (gNo.sub (by decide) pr2089)
  have sS2205 : gSs rT 1027 ty2129 [8999, 10999, 31999] h2130 h2130 := gSs.rf g2132.1
  refine gs_rput rfl (by decide) rfl sS2205.1 t2139 nx rw2135.2.1 rf2136 rfl (Or.inr rfl) (fun h2206 g2207 nh2206 mh2206 kh2206 zh2206 eh2206 fh2206 => ?_)
  have G2208 : gSg [1, 2, 3, 4, 5, 6, 7, 8, 9, 10, 11, 12, 13, 14, 15, 16, 17, 18, 19, 20, 21, 22, 23, 24, 25, 26, 27, 28, 29, 30, 31, 32, 33, 34, 35, 36, 37, 38, 39, 40, 41, 42, 200] [x] [8999, 10999, 31999] ty h ty2129 h2206 := gSg.tr (gSg.ss G2134 sS2205 (by decide)) g2207 (by decide) (by decide) (fun x hx => Or.inr hx)
  have sS2209 : gSs rT 1027 ty2129 [8999, 10999, 31999] h2206 h2206 := gSs.rf g2207.1
  have rf2210 := Nat.lt_of_lt_of_eq rw2135.2.1 nh2206.symm
  have rf2211 := zh2206.trans rf2137
  have dd2212 : ∀ k, ¬ k ∈ ([65, 63, 60, 58, 57, 56, 55, 54, 49, 40, 38, 37, 36, 35, 34, 33, 32, 31, 30, 29, 28, 27, 26, 25, 15, 14, 13, 12, 11, 10, 9, 4, 2] : List Nat) → h2206.2.2.2.2 x k = defaultValue (gGG.2.1 12 k) := raw_dp fh2206 dd2138
  have s2213 := (fh2206 2 (by decide)).trans s2172
  have s2214 := (fh2206 4 (by decide)).trans s2173
  have s2215 := (fh2206 9 (by decide)).trans s2174
  have s2216 := (fh2206 10 (by decide)).trans s2175
  have s2217 := (fh2206 11 (by decide)).trans s2176
  have s2218 := (fh2206 12 (by decide)).trans s2177
  have s2219 := (fh2206 13 (by decide)).trans s2178
  have s2220 := (fh2206 14 (by decide)).trans s2179
  have s2221 := (fh2206 15 (by decide)).trans s2180
  have s2222 := (fh2206 25 (by decide)).trans s2181
  have s2223 := (fh2206 26 (by decide)).trans s2182
  have s2224 := (fh2206 27 (by decide)).trans s2183
  have s2225 := (fh2206 28 (by decide)).trans s2184
  have s2226 := (fh2206 29 (by decide)).trans s2185
  have s2227 := (fh2206 30 (by decide)).trans s2186
  have s2228 := (fh2206 31 (by decide)).trans s2187
  have s2229 := (fh2206 32 (by decide)).trans s2188
  have s2230 := (fh2206 33 (by decide)).trans s2189
  have s2231 := (fh2206 34 (by decide)).trans s2190
  have s2232 := (fh2206 35 (by decide)).trans s2191
  have s2233 := (fh2206 36 (by decide)).trans s2192
  have s2234 := (fh2206 37 (by decide)).trans s2193
  have s2235 := (fh2206 38 (by decide)).trans s2194
  have s2236 := (fh2206 40 (by decide)).trans s2195
  have s2237 := (fh2206 49 (by decide)).trans s2196
  have s2238 := (fh2206 54 (by decide)).trans s2197
  have s2239 := (fh2206 55 (by decide)).trans s2198
  have s2240 := (fh2206 56 (by decide)).trans s2199
  have s2241 := (fh2206 57 (by decide)).trans s2200
  have s2242 := (fh2206 58 (by decide)).trans s2201
  have s2243 := (fh2206 60 (by decide)).trans s2202
  have s2244 := (fh2206 63 (by decide)).trans s2203
  refine gz_s 2 (pc' := 269) (L' := [some (.ref x), none, none, none, none]) (S' := [.int (zi 17), .ref x]) rfl ?_
  refine gs_newr 35 rfl (by decide) rfl sS2209.1 (Nat.le_of_lt (Nat.lt_of_le_of_lt (gJ.cell sS2209.1 t2140 rfl).1 (gJ.cell sS2209.1 t2140 rfl).2.1)) (by omega) (by omega) rfl rfl (by show (17 : Int) ≤ _; omega) (by show _ ≤ (17 : Int); omega) (fun _ _ => gos_i (by decide) (by decide)) (fun ty2245 h2246 c2247 g2248 tc2247 lc2247 nc2247 mc2247 ec2247 dc2247 uc2247 => ?_)
  have gac2247 : h.1 ≤ c2247 := by have h8 := G2208.2.1; have h9 := sS2209.2.1; omega
  have uq2249 := uc2247 uq2133 (Or.inr (gNo.sub (by decide) pr2204))
  have G2250 : gSg [1, 2, 3, 4, 5, 6, 7, 8, 9, 10, 11, 12, 13, 14, 15, 16, 17, 18, 19, 20, 21, 22, 23, 24, 25, 26, 27, 28, 29, 30, 31, 32, 33, 34, 35, 36, 37, 38, 39, 40, 41, 42, 200] [x] [8999, 10999, 31999] ty h ty2245 h2246 := gSg.tr (gSg.ss G2208 sS2209 (by decide)) g2248 (by decide) (by decide) (fun x hx => by cases hx)
  have rw2251 := gSg.raw g2248 rf2210 (fun w => by cases w)
  have rf2252 := (rw2251.2.2.1.trans kh2206)
  have rf2253 := (rw2251.2.2.2.trans rf2211)
  have dd2254 := gSg.rawd (ci := 12) (ps := [65, 63, 60, 58, 57, 56, 55, 54, 49, 40, 38, 37, 36, 35, 34, 33, 32, 31, 30, 29, 28, 27, 26, 25, 15, 14, 13, 12, 11, 10, 9, 4, 2]) g2248 rf2210 (fun w => by cases w) t2139 (by decide) dd2212
  have t2255 : ty2245 x = 200 := rw2251.1.trans t2139
  have t2256 : ty2245 c3 = 2 := gSg.typ g2248 sS2209.1 t2140 rfl
  have t2257 : ty2245 c23 = 3 := gSg.typ g2248 sS2209.1 t2141 rfl
  have t2258 : ty2245 c46 = 4 := gSg.typ g2248 sS2209.1 t2142 rfl
  have t2259 : ty2245 c72 = 5 := gSg.typ g2248 sS2209.1 t2143 rfl
  have t2260 : ty2245 c101 = 6 := gSg.typ g2248 sS2209.1 t2144 rfl
  have t2261 : ty2245 c133 = 7 := gSg.typ g2248 sS2209.1 t2145 rfl
  have t2262 : ty2245 c168 = 8 := gSg.typ g2248 sS2209.1 t2146 rfl
  have t2263 : ty2245 c206 = 9 := gSg.typ g2248 sS2209.1 t2147 rfl
  have t2264 : ty2245 c247 = 10 := gSg.typ g2248 sS2209.1 t2148 rfl
  have t2265 : ty2245 c291 = 11 := gSg.typ g2248 sS2209.1 t2149 rfl
  have t2266 : ty2245 c338 = 12 := gSg.typ g2248 sS2209.1 t2150 rfl
  have t2267 : ty2245 c388 = 13 := gSg.typ g2248 sS2209.1 t2151 rfl
  have t2268 : ty2245 c441 = 14 := gSg.typ g2248 sS2209.1 t2152 rfl
  have t2269 : ty2245 c497 = 15 := gSg.typ g2248 sS2209.1 t2153 rfl
  have t2270 : ty2245 c556 = 16 := gSg.typ g2248 sS2209.1 t2154 rfl
  have t2271 : ty2245 c618 = 17 := gSg.typ g2248 sS2209.1 t2155 rfl
  have t2272 : ty2245 c683 = 18 := gSg.typ g2248 sS2209.1 t2156 rfl
  have t2273 : ty2245 c751 = 19 := gSg.typ g2248 sS2209.1 t2157 rfl
  have t2274 : ty2245 c822 = 20 := gSg.typ g2248 sS2209.1 t2158 rfl
  have t2275 : ty2245 c896 = 21 := gSg.typ g2248 sS2209.1 t2159 rfl
  have t2276 : ty2245 c973 = 22 := gSg.typ g2248 sS2209.1 t2160 rfl
  have t2277 : ty2245 c1053 = 23 := gSg.typ g2248 sS2209.1 t2161 rfl
  have t2278 : ty2245 c1136 = 24 := gSg.typ g2248 sS2209.1 t2162 rfl
  have t2279 : ty2245 c1222 = 25 := gSg.typ g2248 sS2209.1 t2163 rfl
  have t2280 : ty2245 c1311 = 26 := gSg.typ g2248 sS2209.1 t2164 rfl
  have t2281 : ty2245 c1403 = 27 := gSg.typ g2248 sS2209.1 t2165 rfl
  have t2282 : ty2245 c1498 = 28 := gSg.typ g2248 sS2209.1 t2166 rfl
  have t2283 : ty2245 c1596 = 29 := gSg.typ g2248 sS2209.1 t2167 rfl
  have t2284 : ty2245 c1697 = 30 := gSg.typ g2248 sS2209.1 t2168 rfl
  have t2285 : ty2245 c1801 = 31 := gSg.typ g2248 sS2209.1 t2169 rfl
  have t2286 : ty2245 c1908 = 32 := gSg.typ g2248 sS2209.1 t2170 rfl
  have t2287 : ty2245 c2018 = 33 := gSg.typ g2248 sS2209.1 t2171 rfl
  have t2288 : ty2245 c2131 = 34 := gSg.typ g2248 sS2209.1 tc2131 rfl
  have s2289 := gSg.rawat g2248 rf2210 (fun w => by cases w) t2139 (by decide) s2213
  have s2290 := gSg.rawat g2248 rf2210 (fun w => by cases w) t2139 (by decide) s2214
  have s2291 := gSg.rawat g2248 rf2210 (fun w => by cases w) t2139 (by decide) s2215
  have s2292 := gSg.rawat g2248 rf2210 (fun w => by cases w) t2139 (by decide) s2216
  have s2293 := gSg.rawat g2248 rf2210 (fun w => by cases w) t2139 (by decide) s2217
  have s2294 := gSg.rawat g2248 rf2210 (fun w => by cases w) t2139 (by decide) s2218
  have s2295 := gSg.rawat g2248 rf2210 (fun w => by cases w) t2139 (by decide) s2219
  have s2296 := gSg.rawat g2248 rf2210 (fun w => by cases w) t2139 (by decide) s2220
  have s2297 := gSg.rawat g2248 rf2210 (fun w => by cases w) t2139 (by decide) s2221
  have s2298 := gSg.rawat g2248 rf2210 (fun w => by cases w) t2139 (by decide) s2222
  have s2299 := gSg.rawat g2248 rf2210 (fun w => by cases w) t2139 (by decide) s2223
  have s2300 := gSg.rawat g2248 rf2210 (fun w => by cases w) t2139 (by decide) s2224
  have s2301 := gSg.rawat g2248 rf2210 (fun w => by cases w) t2139 (by decide) s2225
  have s2302 := gSg.rawat g2248 rf2210 (fun w => by cases w) t2139 (by decide) s2226
  have s2303 := gSg.rawat g2248 rf2210 (fun w => by cases w) t2139 (by decide) s2227
  have s2304 := gSg.rawat g2248 rf2210 (fun w => by cases w) t2139 (by decide) s2228
  have s2305 := gSg.rawat g2248 rf2210 (fun w => by cases w) t2139 (by decide) s2229
  have s2306 := gSg.rawat g2248 rf2210 (fun w => by cases w) t2139 (by decide) s2230
  have s2307 := gSg.rawat g2248 rf2210 (fun w => by cases w) t2139 (by decide) s2231
  have s2308 := gSg.rawat g2248 rf2210 (fun w => by cases w) t2139 (by decide) s2232
  have s2309 := gSg.rawat g2248 rf2210 (fun w => by cases w) t2139 (by decide) s2233
  have s2310 := gSg.rawat g2248 rf2210 (fun w => by cases w) t2139 (by decide) s2234
  have s2311 := gSg.rawat g2248 rf2210 (fun w => by cases w) t2139 (by decide) s2235
  have s2312 := gSg.rawat g2248 rf2210 (fun w => by cases w) t2139 (by decide) s2236
  have s2313 := gSg.rawat g2248 rf2210 (fun w => by cases w) t2139 (by decide) s2237
  have s2314 := gSg.rawat g2248 rf2210 (fun w => by cases w) t2139 (by decide) s2238
  have s2315 := gSg.rawat g2248 rf2210 (fun w => by cases w) t2139 (by decide) s2239
  have s2316 := gSg.rawat g2248 rf2210 (fun w => by cases w) t2139 (by decide) s2240
  have s2317 := gSg.rawat g2248 rf2210 (fun w => by cases w) t2139 (by decide) s2241
  have s2318 := gSg.rawat g2248 rf2210 (fun w => by cases w) t2139 (by decide) s2242
  have s2319 := gSg.rawat g2248 rf2210 (fun w => by cases w) t2139 (by decide) s2243
  have s2320 := gSg.rawat g2248 rf2210 (fun w => by cases w) t2139 (by decide) s2244
  have s2321 := gSg.rawat g2248 rf2210 (fun w => by cases w) t2139 (by decide) eh2206
  have pr2322 : gNo [1, 36, 37, 38, 39, 40, 41, 42] ty2245 := gNo.gr g2248 (by decide) (gNo.sub (by decide) pr2204)
  have sS2323 : gSs rT 1027 ty2245 [8999, 10999, 31999] h2246 h2246 := gSs.rf g2248.1
  refine gs_rput rfl (by decide) rfl sS2323.1 t2255 nx rw2251.2.1 rf2252 rfl (Or.inr rfl) (fun h2324 g2325 nh2324 mh2324 kh2324 zh2324 eh2324 fh2324 => ?_)
  have G2326 : gSg [1, 2, 3, 4, 5, 6, 7, 8, 9, 10, 11, 12, 13, 14, 15, 16, 17, 18, 19, 20, 21, 22, 23, 24, 25, 26, 27, 28, 29, 30, 31, 32, 33, 34, 35, 36, 37, 38, 39, 40, 41, 42, 200] [x] [8999, 10999, 31999] ty h ty2245 h2324 := gSg.tr (gSg.ss G2250 sS2323 (by decide)) g2325 (by decide) (by decide) (fun x hx => Or.inr hx)
  have sS2327 : gSs rT 1027 ty2245 [8999, 10999, 31999] h2324 h2324 := gSs.rf g2325.1
  have rf2328 := Nat.lt_of_lt_of_eq rw2251.2.1 nh2324.symm
  have rf2329 := zh2324.trans rf2253
  have dd2330 : ∀ k, ¬ k ∈ ([66, 65, 63, 60, 58, 57, 56, 55, 54, 49, 40, 38, 37, 36, 35, 34, 33, 32, 31, 30, 29, 28, 27, 26, 25, 15, 14, 13, 12, 11, 10, 9, 4, 2] : List Nat) → h2324.2.2.2.2 x k = defaultValue (gGG.2.1 12 k) := raw_dp fh2324 dd2254
  have s2331 := (fh2324 2 (by decide)).trans s2289
  have s2332 := (fh2324 4 (by decide)).trans s2290
  have s2333 := (fh2324 9 (by decide)).trans s2291
  have s2334 := (fh2324 10 (by decide)).trans s2292
  have s2335 := (fh2324 11 (by decide)).trans s2293
  have s2336 := (fh2324 12 (by decide)).trans s2294
  have s2337 := (fh2324 13 (by decide)).trans s2295
  have s2338 := (fh2324 14 (by decide)).trans s2296
  have s2339 := (fh2324 15 (by decide)).trans s2297
  have s2340 := (fh2324 25 (by decide)).trans s2298
  have s2341 := (fh2324 26 (by decide)).trans s2299
  have s2342 := (fh2324 27 (by decide)).trans s2300
  have s2343 := (fh2324 28 (by decide)).trans s2301
  have s2344 := (fh2324 29 (by decide)).trans s2302
  have s2345 := (fh2324 30 (by decide)).trans s2303
  have s2346 := (fh2324 31 (by decide)).trans s2304
  have s2347 := (fh2324 32 (by decide)).trans s2305
  have s2348 := (fh2324 33 (by decide)).trans s2306
  have s2349 := (fh2324 34 (by decide)).trans s2307
  have s2350 := (fh2324 35 (by decide)).trans s2308
  have s2351 := (fh2324 36 (by decide)).trans s2309
  have s2352 := (fh2324 37 (by decide)).trans s2310
  have s2353 := (fh2324 38 (by decide)).trans s2311
  have s2354 := (fh2324 40 (by decide)).trans s2312
  have s2355 := (fh2324 49 (by decide)).trans s2313
  have s2356 := (fh2324 54 (by decide)).trans s2314
  have s2357 := (fh2324 55 (by decide)).trans s2315
  have s2358 := (fh2324 56 (by decide)).trans s2316
  have s2359 := (fh2324 57 (by decide)).trans s2317
  have s2360 := (fh2324 58 (by decide)).trans s2318
  have s2361 := (fh2324 60 (by decide)).trans s2319
  have s2362 := (fh2324 63 (by decide)).trans s2320
  have s2363 := (fh2324 65 (by decide)).trans s2321
  refine gz_s 2 (pc' := 278) (L' := [some (.ref x), none, none, none, none]) (S' := [.int (zi 514), .ref x]) rfl ?_
  refine gs_newr 36 rfl (by decide) rfl sS2327.1 (Nat.le_of_lt (Nat.lt_of_le_of_lt (gJ.cell sS2327.1 t2256 rfl).1 (gJ.cell sS2327.1 t2256 rfl).2.1)) (by omega) (by omega) rfl rfl (by show (514 : Int) ≤ _; omega) (by show _ ≤ (514 : Int); omega) (fun _ _ => gos_i (by decide) (by decide)) (fun ty2364 h2365 c2366 g2367 tc2366 lc2366 nc2366 mc2366 ec2366 dc2366 uc2366 => ?_)
  have gac2366 : h.1 ≤ c2366 := by have h8 := G2326.2.1; have h9 := sS2327.2.1; omega
  have uq2368 := uc2366 uq2249 (Or.inr (gNo.sub (by decide) pr2322))
  have G2369 : gSg [1, 2, 3, 4, 5, 6, 7, 8, 9, 10, 11, 12, 13, 14, 15, 16, 17, 18, 19, 20, 21, 22, 23, 24, 25, 26, 27, 28, 29, 30, 31, 32, 33, 34, 35, 36, 37, 38, 39, 40, 41, 42, 200] [x] [8999, 10999, 31999] ty h ty2364 h2365 := gSg.tr (gSg.ss G2326 sS2327 (by decide)) g2367 (by decide) (by decide) (fun x hx => by cases hx)
  have rw2370 := gSg.raw g2367 rf2328 (fun w => by cases w)
  have rf2371 := (rw2370.2.2.1.trans kh2324)
  have rf2372 := (rw2370.2.2.2.trans rf2329)
  have dd2373 := gSg.rawd (ci := 12) (ps := [66, 65, 63, 60, 58, 57, 56, 55, 54, 49, 40, 38, 37, 36, 35, 34, 33, 32, 31, 30, 29, 28, 27, 26, 25, 15, 14, 13, 12, 11, 10, 9, 4, 2]) g2367 rf2328 (fun w => by cases w) t2255 (by decide) dd2330
  have t2374 : ty2364 x = 200 := rw2370.1.trans t2255
  have t2375 : ty2364 c3 = 2 := gSg.typ g2367 sS2327.1 t2256 rfl
  have t2376 : ty2364 c23 = 3 := gSg.typ g2367 sS2327.1 t2257 rfl
  have t2377 : ty2364 c46 = 4 := gSg.typ g2367 sS2327.1 t2258 rfl
  have t2378 : ty2364 c72 = 5 := gSg.typ g2367 sS2327.1 t2259 rfl
  have t2379 : ty2364 c101 = 6 := gSg.typ g2367 sS2327.1 t2260 rfl
  have t2380 : ty2364 c133 = 7 := gSg.typ g2367 sS2327.1 t2261 rfl
  have t2381 : ty2364 c168 = 8 := gSg.typ g2367 sS2327.1 t2262 rfl
  have t2382 : ty2364 c206 = 9 := gSg.typ g2367 sS2327.1 t2263 rfl
  have t2383 : ty2364 c247 = 10 := gSg.typ g2367 sS2327.1 t2264 rfl
  have t2384 : ty2364 c291 = 11 := gSg.typ g2367 sS2327.1 t2265 rfl
  have t2385 : ty2364 c338 = 12 := gSg.typ g2367 sS2327.1 t2266 rfl
  have t2386 : ty2364 c388 = 13 := gSg.typ g2367 sS2327.1 t2267 rfl
  have t2387 : ty2364 c441 = 14 := gSg.typ g2367 sS2327.1 t2268 rfl
  have t2388 : ty2364 c497 = 15 := gSg.typ g2367 sS2327.1 t2269 rfl
  have t2389 : ty2364 c556 = 16 := gSg.typ g2367 sS2327.1 t2270 rfl
  have t2390 : ty2364 c618 = 17 := gSg.typ g2367 sS2327.1 t2271 rfl
  have t2391 : ty2364 c683 = 18 := gSg.typ g2367 sS2327.1 t2272 rfl
  have t2392 : ty2364 c751 = 19 := gSg.typ g2367 sS2327.1 t2273 rfl
  have t2393 : ty2364 c822 = 20 := gSg.typ g2367 sS2327.1 t2274 rfl
  have t2394 : ty2364 c896 = 21 := gSg.typ g2367 sS2327.1 t2275 rfl
  have t2395 : ty2364 c973 = 22 := gSg.typ g2367 sS2327.1 t2276 rfl
  have t2396 : ty2364 c1053 = 23 := gSg.typ g2367 sS2327.1 t2277 rfl
  have t2397 : ty2364 c1136 = 24 := gSg.typ g2367 sS2327.1 t2278 rfl
  have t2398 : ty2364 c1222 = 25 := gSg.typ g2367 sS2327.1 t2279 rfl
  have t2399 : ty2364 c1311 = 26 := gSg.typ g2367 sS2327.1 t2280 rfl
  have t2400 : ty2364 c1403 = 27 := gSg.typ g2367 sS2327.1 t2281 rfl
  have t2401 : ty2364 c1498 = 28 := gSg.typ g2367 sS2327.1 t2282 rfl
  have t2402 : ty2364 c1596 = 29 := gSg.typ g2367 sS2327.1 t2283 rfl
  have t2403 : ty2364 c1697 = 30 := gSg.typ g2367 sS2327.1 t2284 rfl
  have t2404 : ty2364 c1801 = 31 := gSg.typ g2367 sS2327.1 t2285 rfl
  have t2405 : ty2364 c1908 = 32 := gSg.typ g2367 sS2327.1 t2286 rfl
  have t2406 : ty2364 c2018 = 33 := gSg.typ g2367 sS2327.1 t2287 rfl
  have t2407 : ty2364 c2131 = 34 := gSg.typ g2367 sS2327.1 t2288 rfl
  have t2408 : ty2364 c2247 = 35 := gSg.typ g2367 sS2327.1 tc2247 rfl
  have s2409 := gSg.rawat g2367 rf2328 (fun w => by cases w) t2255 (by decide) s2331
  have s2410 := gSg.rawat g2367 rf2328 (fun w => by cases w) t2255 (by decide) s2332
  have s2411 := gSg.rawat g2367 rf2328 (fun w => by cases w) t2255 (by decide) s2333
  have s2412 := gSg.rawat g2367 rf2328 (fun w => by cases w) t2255 (by decide) s2334
  have s2413 := gSg.rawat g2367 rf2328 (fun w => by cases w) t2255 (by decide) s2335
  have s2414 := gSg.rawat g2367 rf2328 (fun w => by cases w) t2255 (by decide) s2336
  have s2415 := gSg.rawat g2367 rf2328 (fun w => by cases w) t2255 (by decide) s2337
  have s2416 := gSg.rawat g2367 rf2328 (fun w => by cases w) t2255 (by decide) s2338
  have s2417 := gSg.rawat g2367 rf2328 (fun w => by cases w) t2255 (by decide) s2339
  have s2418 := gSg.rawat g2367 rf2328 (fun w => by cases w) t2255 (by decide) s2340
  have s2419 := gSg.rawat g2367 rf2328 (fun w => by cases w) t2255 (by decide) s2341
  have s2420 := gSg.rawat g2367 rf2328 (fun w => by cases w) t2255 (by decide) s2342
  have s2421 := gSg.rawat g2367 rf2328 (fun w => by cases w) t2255 (by decide) s2343
  have s2422 := gSg.rawat g2367 rf2328 (fun w => by cases w) t2255 (by decide) s2344
  have s2423 := gSg.rawat g2367 rf2328 (fun w => by cases w) t2255 (by decide) s2345
  have s2424 := gSg.rawat g2367 rf2328 (fun w => by cases w) t2255 (by decide) s2346
  have s2425 := gSg.rawat g2367 rf2328 (fun w => by cases w) t2255 (by decide) s2347
  have s2426 := gSg.rawat g2367 rf2328 (fun w => by cases w) t2255 (by decide) s2348
  have s2427 := gSg.rawat g2367 rf2328 (fun w => by cases w) t2255 (by decide) s2349
  have s2428 := gSg.rawat g2367 rf2328 (fun w => by cases w) t2255 (by decide) s2350
  have s2429 := gSg.rawat g2367 rf2328 (fun w => by cases w) t2255 (by decide) s2351
  have s2430 := gSg.rawat g2367 rf2328 (fun w => by cases w) t2255 (by decide) s2352
  have s2431 := gSg.rawat g2367 rf2328 (fun w => by cases w) t2255 (by decide) s2353
  have s2432 := gSg.rawat g2367 rf2328 (fun w => by cases w) t2255 (by decide) s2354
  have s2433 := gSg.rawat g2367 rf2328 (fun w => by cases w) t2255 (by decide) s2355
  have s2434 := gSg.rawat g2367 rf2328 (fun w => by cases w) t2255 (by decide) s2356
  have s2435 := gSg.rawat g2367 rf2328 (fun w => by cases w) t2255 (by decide) s2357
  have s2436 := gSg.rawat g2367 rf2328 (fun w => by cases w) t2255 (by decide) s2358
  have s2437 := gSg.rawat g2367 rf2328 (fun w => by cases w) t2255 (by decide) s2359
  have s2438 := gSg.rawat g2367 rf2328 (fun w => by cases w) t2255 (by decide) s2360
  have s2439 := gSg.rawat g2367 rf2328 (fun w => by cases w) t2255 (by decide) s2361
  have s2440 := gSg.rawat g2367 rf2328 (fun w => by cases w) t2255 (by decide) s2362
  have s2441 := gSg.rawat g2367 rf2328 (fun w => by cases w) t2255 (by decide) s2363
  have s2442 := gSg.rawat g2367 rf2328 (fun w => by cases w) t2255 (by decide) eh2324
  have pr2443 : gNo [1, 37, 38, 39, 40, 41, 42] ty2364 := gNo.gr g2367 (by decide) (gNo.sub (by decide) pr2322)
  have sS2444 : gSs rT 1027 ty2364 [8999, 10999, 31999] h2365 h2365 := gSs.rf g2367.1
  refine gs_rput rfl (by decide) rfl sS2444.1 t2374 nx rw2370.2.1 rf2371 rfl (Or.inr rfl) (fun h2445 g2446 nh2445 mh2445 kh2445 zh2445 eh2445 fh2445 => ?_)
  have G2447 : gSg [1, 2, 3, 4, 5, 6, 7, 8, 9, 10, 11, 12, 13, 14, 15, 16, 17, 18, 19, 20, 21, 22, 23, 24, 25, 26, 27, 28, 29, 30, 31, 32, 33, 34, 35, 36, 37, 38, 39, 40, 41, 42, 200] [x] [8999, 10999, 31999] ty h ty2364 h2445 := gSg.tr (gSg.ss G2369 sS2444 (by decide)) g2446 (by decide) (by decide) (fun x hx => Or.inr hx)
  have sS2448 : gSs rT 1027 ty2364 [8999, 10999, 31999] h2445 h2445 := gSs.rf g2446.1
  have rf2449 := Nat.lt_of_lt_of_eq rw2370.2.1 nh2445.symm
  have rf2450 := zh2445.trans rf2372
  have dd2451 : ∀ k, ¬ k ∈ ([68, 66, 65, 63, 60, 58, 57, 56, 55, 54, 49, 40, 38, 37, 36, 35, 34, 33, 32, 31, 30, 29, 28, 27, 26, 25, 15, 14, 13, 12, 11, 10, 9, 4, 2] : List Nat) → h2445.2.2.2.2 x k = defaultValue (gGG.2.1 12 k) := raw_dp fh2445 dd2373
  have s2452 := (fh2445 2 (by decide)).trans s2409
  have s2453 := (fh2445 4 (by decide)).trans s2410
  have s2454 := (fh2445 9 (by decide)).trans s2411
  have s2455 := (fh2445 10 (by decide)).trans s2412
  have s2456 := (fh2445 11 (by decide)).trans s2413
  have s2457 := (fh2445 12 (by decide)).trans s2414
  have s2458 := (fh2445 13 (by decide)).trans s2415
  have s2459 := (fh2445 14 (by decide)).trans s2416
  have s2460 := (fh2445 15 (by decide)).trans s2417
  have s2461 := (fh2445 25 (by decide)).trans s2418
  have s2462 := (fh2445 26 (by decide)).trans s2419
  have s2463 := (fh2445 27 (by decide)).trans s2420
  have s2464 := (fh2445 28 (by decide)).trans s2421
  have s2465 := (fh2445 29 (by decide)).trans s2422
  have s2466 := (fh2445 30 (by decide)).trans s2423
  have s2467 := (fh2445 31 (by decide)).trans s2424
  have s2468 := (fh2445 32 (by decide)).trans s2425
  have s2469 := (fh2445 33 (by decide)).trans s2426
  have s2470 := (fh2445 34 (by decide)).trans s2427
  have s2471 := (fh2445 35 (by decide)).trans s2428
  have s2472 := (fh2445 36 (by decide)).trans s2429
  have s2473 := (fh2445 37 (by decide)).trans s2430
  have s2474 := (fh2445 38 (by decide)).trans s2431
  have s2475 := (fh2445 40 (by decide)).trans s2432
  have s2476 := (fh2445 49 (by decide)).trans s2433
  have s2477 := (fh2445 54 (by decide)).trans s2434
  have s2478 := (fh2445 55 (by decide)).trans s2435
  have s2479 := (fh2445 56 (by decide)).trans s2436
  have s2480 := (fh2445 57 (by decide)).trans s2437
  have s2481 := (fh2445 58 (by decide)).trans s2438
  have s2482 := (fh2445 60 (by decide)).trans s2439
  have s2483 := (fh2445 63 (by decide)).trans s2440
  have s2484 := (fh2445 65 (by decide)).trans s2441
  have s2485 := (fh2445 66 (by decide)).trans s2442
  refine gz_s 2 (pc' := 287) (L' := [some (.ref x), none, none, none, none]) (S' := [.int (zi 514), .ref x]) rfl ?_
  refine gs_newr 37 rfl (by decide) rfl sS2448.1 (Nat.le_of_lt (Nat.lt_of_le_of_lt (gJ.cell sS2448.1 t2375 rfl).1 (gJ.cell sS2448.1 t2375 rfl).2.1)) (by omega) (by omega) rfl rfl (by show (514 : Int) ≤ _; omega) (by show _ ≤ (514 : Int); omega) (fun _ _ => gos_i (by decide) (by decide)) (fun ty2486 h2487 c2488 g2489 tc2488 lc2488 nc2488 mc2488 ec2488 dc2488 uc2488 => ?_)
  have gac2488 : h.1 ≤ c2488 := by have h8 := G2447.2.1; have h9 := sS2448.2.1; omega
  have uq2490 := uc2488 uq2368 (Or.inr (gNo.sub (by decide) pr2443))
  have G2491 : gSg [1, 2, 3, 4, 5, 6, 7, 8, 9, 10, 11, 12, 13, 14, 15, 16, 17, 18, 19, 20, 21, 22, 23, 24, 25, 26, 27, 28, 29, 30, 31, 32, 33, 34, 35, 36, 37, 38, 39, 40, 41, 42, 200] [x] [8999, 10999, 31999] ty h ty2486 h2487 := gSg.tr (gSg.ss G2447 sS2448 (by decide)) g2489 (by decide) (by decide) (fun x hx => by cases hx)
  have rw2492 := gSg.raw g2489 rf2449 (fun w => by cases w)
  have rf2493 := (rw2492.2.2.1.trans kh2445)
  have rf2494 := (rw2492.2.2.2.trans rf2450)
  have dd2495 := gSg.rawd (ci := 12) (ps := [68, 66, 65, 63, 60, 58, 57, 56, 55, 54, 49, 40, 38, 37, 36, 35, 34, 33, 32, 31, 30, 29, 28, 27, 26, 25, 15, 14, 13, 12, 11, 10, 9, 4, 2]) g2489 rf2449 (fun w => by cases w) t2374 (by decide) dd2451
  have t2496 : ty2486 x = 200 := rw2492.1.trans t2374
  have t2497 : ty2486 c3 = 2 := gSg.typ g2489 sS2448.1 t2375 rfl
  have t2498 : ty2486 c23 = 3 := gSg.typ g2489 sS2448.1 t2376 rfl
  have t2499 : ty2486 c46 = 4 := gSg.typ g2489 sS2448.1 t2377 rfl
  have t2500 : ty2486 c72 = 5 := gSg.typ g2489 sS2448.1 t2378 rfl
  have t2501 : ty2486 c101 = 6 := gSg.typ g2489 sS2448.1 t2379 rfl
  have t2502 : ty2486 c133 = 7 := gSg.typ g2489 sS2448.1 t2380 rfl
  have t2503 : ty2486 c168 = 8 := gSg.typ g2489 sS2448.1 t2381 rfl
  have t2504 : ty2486 c206 = 9 := gSg.typ g2489 sS2448.1 t2382 rfl
  have t2505 : ty2486 c247 = 10 := gSg.typ g2489 sS2448.1 t2383 rfl
  have t2506 : ty2486 c291 = 11 := gSg.typ g2489 sS2448.1 t2384 rfl
  have t2507 : ty2486 c338 = 12 := gSg.typ g2489 sS2448.1 t2385 rfl
  have t2508 : ty2486 c388 = 13 := gSg.typ g2489 sS2448.1 t2386 rfl
  have t2509 : ty2486 c441 = 14 := gSg.typ g2489 sS2448.1 t2387 rfl
  have t2510 : ty2486 c497 = 15 := gSg.typ g2489 sS2448.1 t2388 rfl
  have t2511 : ty2486 c556 = 16 := gSg.typ g2489 sS2448.1 t2389 rfl
  have t2512 : ty2486 c618 = 17 := gSg.typ g2489 sS2448.1 t2390 rfl
  have t2513 : ty2486 c683 = 18 := gSg.typ g2489 sS2448.1 t2391 rfl
  have t2514 : ty2486 c751 = 19 := gSg.typ g2489 sS2448.1 t2392 rfl
  have t2515 : ty2486 c822 = 20 := gSg.typ g2489 sS2448.1 t2393 rfl
  have t2516 : ty2486 c896 = 21 := gSg.typ g2489 sS2448.1 t2394 rfl
  have t2517 : ty2486 c973 = 22 := gSg.typ g2489 sS2448.1 t2395 rfl
  have t2518 : ty2486 c1053 = 23 := gSg.typ g2489 sS2448.1 t2396 rfl
  have t2519 : ty2486 c1136 = 24 := gSg.typ g2489 sS2448.1 t2397 rfl
  have t2520 : ty2486 c1222 = 25 := gSg.typ g2489 sS2448.1 t2398 rfl
  have t2521 : ty2486 c1311 = 26 := gSg.typ g2489 sS2448.1 t2399 rfl
  have t2522 : ty2486 c1403 = 27 := gSg.typ g2489 sS2448.1 t2400 rfl
  have t2523 : ty2486 c1498 = 28 := gSg.typ g2489 sS2448.1 t2401 rfl
  have t2524 : ty2486 c1596 = 29 := gSg.typ g2489 sS2448.1 t2402 rfl
  have t2525 : ty2486 c1697 = 30 := gSg.typ g2489 sS2448.1 t2403 rfl
  have t2526 : ty2486 c1801 = 31 := gSg.typ g2489 sS2448.1 t2404 rfl
  have t2527 : ty2486 c1908 = 32 := gSg.typ g2489 sS2448.1 t2405 rfl
  have t2528 : ty2486 c2018 = 33 := gSg.typ g2489 sS2448.1 t2406 rfl
  have t2529 : ty2486 c2131 = 34 := gSg.typ g2489 sS2448.1 t2407 rfl
  have t2530 : ty2486 c2247 = 35 := gSg.typ g2489 sS2448.1 t2408 rfl
  have t2531 : ty2486 c2366 = 36 := gSg.typ g2489 sS2448.1 tc2366 rfl
  have s2532 := gSg.rawat g2489 rf2449 (fun w => by cases w) t2374 (by decide) s2452
  have s2533 := gSg.rawat g2489 rf2449 (fun w => by cases w) t2374 (by decide) s2453
  have s2534 := gSg.rawat g2489 rf2449 (fun w => by cases w) t2374 (by decide) s2454
  have s2535 := gSg.rawat g2489 rf2449 (fun w => by cases w) t2374 (by decide) s2455
  have s2536 := gSg.rawat g2489 rf2449 (fun w => by cases w) t2374 (by decide) s2456
  have s2537 := gSg.rawat g2489 rf2449 (fun w => by cases w) t2374 (by decide) s2457
  have s2538 := gSg.rawat g2489 rf2449 (fun w => by cases w) t2374 (by decide) s2458
  have s2539 := gSg.rawat g2489 rf2449 (fun w => by cases w) t2374 (by decide) s2459
  have s2540 := gSg.rawat g2489 rf2449 (fun w => by cases w) t2374 (by decide) s2460
  have s2541 := gSg.rawat g2489 rf2449 (fun w => by cases w) t2374 (by decide) s2461
  have s2542 := gSg.rawat g2489 rf2449 (fun w => by cases w) t2374 (by decide) s2462
  have s2543 := gSg.rawat g2489 rf2449 (fun w => by cases w) t2374 (by decide) s2463
  have s2544 := gSg.rawat g2489 rf2449 (fun w => by cases w) t2374 (by decide) s2464
  have s2545 := gSg.rawat g2489 rf2449 (fun w => by cases w) t2374 (by decide) s2465
  have s2546 := gSg.rawat g2489 rf2449 (fun w => by cases w) t2374 (by decide) s2466
  have s2547 := gSg.rawat g2489 rf2449 (fun w => by cases w) t2374 (by decide) s2467
  have s2548 := gSg.rawat g2489 rf2449 (fun w => by cases w) t2374 (by decide) s2468
  have s2549 := gSg.rawat g2489 rf2449 (fun w => by cases w) t2374 (by decide) s2469
  have s2550 := gSg.rawat g2489 rf2449 (fun w => by cases w) t2374 (by decide) s2470
  have s2551 := gSg.rawat g2489 rf2449 (fun w => by cases w) t2374 (by decide) s2471
  have s2552 := gSg.rawat g2489 rf2449 (fun w => by cases w) t2374 (by decide) s2472
  have s2553 := gSg.rawat g2489 rf2449 (fun w => by cases w) t2374 (by decide) s2473
  have s2554 := gSg.rawat g2489 rf2449 (fun w => by cases w) t2374 (by decide) s2474
  have s2555 := gSg.rawat g2489 rf2449 (fun w => by cases w) t2374 (by decide) s2475
  have s2556 := gSg.rawat g2489 rf2449 (fun w => by cases w) t2374 (by decide) s2476
  have s2557 := gSg.rawat g2489 rf2449 (fun w => by cases w) t2374 (by decide) s2477
  have s2558 := gSg.rawat g2489 rf2449 (fun w => by cases w) t2374 (by decide) s2478
  have s2559 := gSg.rawat g2489 rf2449 (fun w => by cases w) t2374 (by decide) s2479
  have s2560 := gSg.rawat g2489 rf2449 (fun w => by cases w) t2374 (by decide) s2480
  have s2561 := gSg.rawat g2489 rf2449 (fun w => by cases w) t2374 (by decide) s2481
  have s2562 := gSg.rawat g2489 rf2449 (fun w => by cases w) t2374 (by decide) s2482
  have s2563 := gSg.rawat g2489 rf2449 (fun w => by cases w) t2374 (by decide) s2483
  have s2564 := gSg.rawat g2489 rf2449 (fun w => by cases w) t2374 (by decide) s2484
  have s2565 := gSg.rawat g2489 rf2449 (fun w => by cases w) t2374 (by decide) s2485
  have s2566 := gSg.rawat g2489 rf2449 (fun w => by cases w) t2374 (by decide) eh2445
  have pr2567 : gNo [1, 38, 39, 40, 41, 42] ty2486 := gNo.gr g2489 (by decide) (gNo.sub (by decide) pr2443)
  have sS2568 : gSs rT 1027 ty2486 [8999, 10999, 31999] h2487 h2487 := gSs.rf g2489.1
  refine gs_rput rfl (by decide) rfl sS2568.1 t2496 nx rw2492.2.1 rf2493 rfl (Or.inr rfl) (fun h2569 g2570 nh2569 mh2569 kh2569 zh2569 eh2569 fh2569 => ?_)
  have G2571 : gSg [1, 2, 3, 4, 5, 6, 7, 8, 9, 10, 11, 12, 13, 14, 15, 16, 17, 18, 19, 20, 21, 22, 23, 24, 25, 26, 27, 28, 29, 30, 31, 32, 33, 34, 35, 36, 37, 38, 39, 40, 41, 42, 200] [x] [8999, 10999, 31999] ty h ty2486 h2569 := gSg.tr (gSg.ss G2491 sS2568 (by decide)) g2570 (by decide) (by decide) (fun x hx => Or.inr hx)
  have sS2572 : gSs rT 1027 ty2486 [8999, 10999, 31999] h2569 h2569 := gSs.rf g2570.1
  have rf2573 := Nat.lt_of_lt_of_eq rw2492.2.1 nh2569.symm
  have rf2574 := zh2569.trans rf2494
  have dd2575 : ∀ k, ¬ k ∈ ([69, 68, 66, 65, 63, 60, 58, 57, 56, 55, 54, 49, 40, 38, 37, 36, 35, 34, 33, 32, 31, 30, 29, 28, 27, 26, 25, 15, 14, 13, 12, 11, 10, 9, 4, 2] : List Nat) → h2569.2.2.2.2 x k = defaultValue (gGG.2.1 12 k) := raw_dp fh2569 dd2495
  have s2576 := (fh2569 2 (by decide)).trans s2532
  have s2577 := (fh2569 4 (by decide)).trans s2533
  have s2578 := (fh2569 9 (by decide)).trans s2534
  have s2579 := (fh2569 10 (by decide)).trans s2535
  have s2580 := (fh2569 11 (by decide)).trans s2536
  have s2581 := (fh2569 12 (by decide)).trans s2537
  have s2582 := (fh2569 13 (by decide)).trans s2538
  have s2583 := (fh2569 14 (by decide)).trans s2539
  have s2584 := (fh2569 15 (by decide)).trans s2540
  have s2585 := (fh2569 25 (by decide)).trans s2541
  have s2586 := (fh2569 26 (by decide)).trans s2542
  have s2587 := (fh2569 27 (by decide)).trans s2543
  have s2588 := (fh2569 28 (by decide)).trans s2544
  have s2589 := (fh2569 29 (by decide)).trans s2545
  have s2590 := (fh2569 30 (by decide)).trans s2546
  have s2591 := (fh2569 31 (by decide)).trans s2547
  have s2592 := (fh2569 32 (by decide)).trans s2548
  have s2593 := (fh2569 33 (by decide)).trans s2549
  have s2594 := (fh2569 34 (by decide)).trans s2550
  have s2595 := (fh2569 35 (by decide)).trans s2551
  have s2596 := (fh2569 36 (by decide)).trans s2552
  have s2597 := (fh2569 37 (by decide)).trans s2553
  have s2598 := (fh2569 38 (by decide)).trans s2554
  have s2599 := (fh2569 40 (by decide)).trans s2555
  have s2600 := (fh2569 49 (by decide)).trans s2556
  have s2601 := (fh2569 54 (by decide)).trans s2557
  have s2602 := (fh2569 55 (by decide)).trans s2558
  have s2603 := (fh2569 56 (by decide)).trans s2559
  have s2604 := (fh2569 57 (by decide)).trans s2560
  have s2605 := (fh2569 58 (by decide)).trans s2561
  have s2606 := (fh2569 60 (by decide)).trans s2562
  have s2607 := (fh2569 63 (by decide)).trans s2563
  have s2608 := (fh2569 65 (by decide)).trans s2564
  have s2609 := (fh2569 66 (by decide)).trans s2565
  have s2610 := (fh2569 68 (by decide)).trans s2566
  refine gz_s 2 (pc' := 296) (L' := [some (.ref x), none, none, none, none]) (S' := [.int (zi 514), .ref x]) rfl ?_
  refine gs_newr 38 rfl (by decide) rfl sS2572.1 (Nat.le_of_lt (Nat.lt_of_le_of_lt (gJ.cell sS2572.1 t2497 rfl).1 (gJ.cell sS2572.1 t2497 rfl).2.1)) (by omega) (by omega) rfl rfl (by show (514 : Int) ≤ _; omega) (by show _ ≤ (514 : Int); omega) (fun _ _ => gos_i (by decide) (by decide)) (fun ty2611 h2612 c2613 g2614 tc2613 lc2613 nc2613 mc2613 ec2613 dc2613 uc2613 => ?_)
  have gac2613 : h.1 ≤ c2613 := by have h8 := G2571.2.1; have h9 := sS2572.2.1; omega
  have uq2615 := uc2613 uq2490 (Or.inr (gNo.sub (by decide) pr2567))
  have G2616 : gSg [1, 2, 3, 4, 5, 6, 7, 8, 9, 10, 11, 12, 13, 14, 15, 16, 17, 18, 19, 20, 21, 22, 23, 24, 25, 26, 27, 28, 29, 30, 31, 32, 33, 34, 35, 36, 37, 38, 39, 40, 41, 42, 200] [x] [8999, 10999, 31999] ty h ty2611 h2612 := gSg.tr (gSg.ss G2571 sS2572 (by decide)) g2614 (by decide) (by decide) (fun x hx => by cases hx)
  have rw2617 := gSg.raw g2614 rf2573 (fun w => by cases w)
  have rf2618 := (rw2617.2.2.1.trans kh2569)
  have rf2619 := (rw2617.2.2.2.trans rf2574)
  have dd2620 := gSg.rawd (ci := 12) (ps := [69, 68, 66, 65, 63, 60, 58, 57, 56, 55, 54, 49, 40, 38, 37, 36, 35, 34, 33, 32, 31, 30, 29, 28, 27, 26, 25, 15, 14, 13, 12, 11, 10, 9, 4, 2]) g2614 rf2573 (fun w => by cases w) t2496 (by decide) dd2575
  have t2621 : ty2611 x = 200 := rw2617.1.trans t2496
  have t2622 : ty2611 c3 = 2 := gSg.typ g2614 sS2572.1 t2497 rfl
  have t2623 : ty2611 c23 = 3 := gSg.typ g2614 sS2572.1 t2498 rfl
  have t2624 : ty2611 c46 = 4 := gSg.typ g2614 sS2572.1 t2499 rfl
  have t2625 : ty2611 c72 = 5 := gSg.typ g2614 sS2572.1 t2500 rfl
  have t2626 : ty2611 c101 = 6 := gSg.typ g2614 sS2572.1 t2501 rfl
  have t2627 : ty2611 c133 = 7 := gSg.typ g2614 sS2572.1 t2502 rfl
  have t2628 : ty2611 c168 = 8 := gSg.typ g2614 sS2572.1 t2503 rfl
  have t2629 : ty2611 c206 = 9 := gSg.typ g2614 sS2572.1 t2504 rfl
  have t2630 : ty2611 c247 = 10 := gSg.typ g2614 sS2572.1 t2505 rfl
  have t2631 : ty2611 c291 = 11 := gSg.typ g2614 sS2572.1 t2506 rfl
  have t2632 : ty2611 c338 = 12 := gSg.typ g2614 sS2572.1 t2507 rfl
  have t2633 : ty2611 c388 = 13 := gSg.typ g2614 sS2572.1 t2508 rfl
  have t2634 : ty2611 c441 = 14 := gSg.typ g2614 sS2572.1 t2509 rfl
  have t2635 : ty2611 c497 = 15 := gSg.typ g2614 sS2572.1 t2510 rfl
  have t2636 : ty2611 c556 = 16 := gSg.typ g2614 sS2572.1 t2511 rfl
  have t2637 : ty2611 c618 = 17 := gSg.typ g2614 sS2572.1 t2512 rfl
  have t2638 : ty2611 c683 = 18 := gSg.typ g2614 sS2572.1 t2513 rfl
  have t2639 : ty2611 c751 = 19 := gSg.typ g2614 sS2572.1 t2514 rfl
  have t2640 : ty2611 c822 = 20 := gSg.typ g2614 sS2572.1 t2515 rfl
  have t2641 : ty2611 c896 = 21 := gSg.typ g2614 sS2572.1 t2516 rfl
  have t2642 : ty2611 c973 = 22 := gSg.typ g2614 sS2572.1 t2517 rfl
  have t2643 : ty2611 c1053 = 23 := gSg.typ g2614 sS2572.1 t2518 rfl
  have t2644 : ty2611 c1136 = 24 := gSg.typ g2614 sS2572.1 t2519 rfl
  have t2645 : ty2611 c1222 = 25 := gSg.typ g2614 sS2572.1 t2520 rfl
  have t2646 : ty2611 c1311 = 26 := gSg.typ g2614 sS2572.1 t2521 rfl
  have t2647 : ty2611 c1403 = 27 := gSg.typ g2614 sS2572.1 t2522 rfl
  have t2648 : ty2611 c1498 = 28 := gSg.typ g2614 sS2572.1 t2523 rfl
  have t2649 : ty2611 c1596 = 29 := gSg.typ g2614 sS2572.1 t2524 rfl
  have t2650 : ty2611 c1697 = 30 := gSg.typ g2614 sS2572.1 t2525 rfl
  have t2651 : ty2611 c1801 = 31 := gSg.typ g2614 sS2572.1 t2526 rfl
  have t2652 : ty2611 c1908 = 32 := gSg.typ g2614 sS2572.1 t2527 rfl
  have t2653 : ty2611 c2018 = 33 := gSg.typ g2614 sS2572.1 t2528 rfl
  have t2654 : ty2611 c2131 = 34 := gSg.typ g2614 sS2572.1 t2529 rfl
  have t2655 : ty2611 c2247 = 35 := gSg.typ g2614 sS2572.1 t2530 rfl
  have t2656 : ty2611 c2366 = 36 := gSg.typ g2614 sS2572.1 t2531 rfl
  have t2657 : ty2611 c2488 = 37 := gSg.typ g2614 sS2572.1 tc2488 rfl
  have s2658 := gSg.rawat g2614 rf2573 (fun w => by cases w) t2496 (by decide) s2576
  have s2659 := gSg.rawat g2614 rf2573 (fun w => by cases w) t2496 (by decide) s2577
  have s2660 := gSg.rawat g2614 rf2573 (fun w => by cases w) t2496 (by decide) s2578
  have s2661 := gSg.rawat g2614 rf2573 (fun w => by cases w) t2496 (by decide) s2579
  have s2662 := gSg.rawat g2614 rf2573 (fun w => by cases w) t2496 (by decide) s2580
  have s2663 := gSg.rawat g2614 rf2573 (fun w => by cases w) t2496 (by decide) s2581
  have s2664 := gSg.rawat g2614 rf2573 (fun w => by cases w) t2496 (by decide) s2582
  have s2665 := gSg.rawat g2614 rf2573 (fun w => by cases w) t2496 (by decide) s2583
  have s2666 := gSg.rawat g2614 rf2573 (fun w => by cases w) t2496 (by decide) s2584
  have s2667 := gSg.rawat g2614 rf2573 (fun w => by cases w) t2496 (by decide) s2585
  have s2668 := gSg.rawat g2614 rf2573 (fun w => by cases w) t2496 (by decide) s2586
  have s2669 := gSg.rawat g2614 rf2573 (fun w => by cases w) t2496 (by decide) s2587
  have s2670 := gSg.rawat g2614 rf2573 (fun w => by cases w) t2496 (by decide) s2588
  have s2671 := gSg.rawat g2614 rf2573 (fun w => by cases w) t2496 (by decide) s2589
  have s2672 := gSg.rawat g2614 rf2573 (fun w => by cases w) t2496 (by decide) s2590
  have s2673 := gSg.rawat g2614 rf2573 (fun w => by cases w) t2496 (by decide) s2591
  have s2674 := gSg.rawat g2614 rf2573 (fun w => by cases w) t2496 (by decide) s2592
  have s2675 := gSg.rawat g2614 rf2573 (fun w => by cases w) t2496 (by decide) s2593
  have s2676 := gSg.rawat g2614 rf2573 (fun w => by cases w) t2496 (by decide) s2594
  have s2677 := gSg.rawat g2614 rf2573 (fun w => by cases w) t2496 (by decide) s2595
  have s2678 := gSg.rawat g2614 rf2573 (fun w => by cases w) t2496 (by decide) s2596
  have s2679 := gSg.rawat g2614 rf2573 (fun w => by cases w) t2496 (by decide) s2597
  have s2680 := gSg.rawat g2614 rf2573 (fun w => by cases w) t2496 (by decide) s2598
  have s2681 := gSg.rawat g2614 rf2573 (fun w => by cases w) t2496 (by decide) s2599
  have s2682 := gSg.rawat g2614 rf2573 (fun w => by cases w) t2496 (by decide) s2600
  have s2683 := gSg.rawat g2614 rf2573 (fun w => by cases w) t2496 (by decide) s2601
  have s2684 := gSg.rawat g2614 rf2573 (fun w => by cases w) t2496 (by decide) s2602
  have s2685 := gSg.rawat g2614 rf2573 (fun w => by cases w) t2496 (by decide) s2603
  have s2686 := gSg.rawat g2614 rf2573 (fun w => by cases w) t2496 (by decide) s2604
  have s2687 := gSg.rawat g2614 rf2573 (fun w => by cases w) t2496 (by decide) s2605
  have s2688 := gSg.rawat g2614 rf2573 (fun w => by cases w) t2496 (by decide) s2606
  have s2689 := gSg.rawat g2614 rf2573 (fun w => by cases w) t2496 (by decide) s2607
  have s2690 := gSg.rawat g2614 rf2573 (fun w => by cases w) t2496 (by decide) s2608
  have s2691 := gSg.rawat g2614 rf2573 (fun w => by cases w) t2496 (by decide) s2609
  have s2692 := gSg.rawat g2614 rf2573 (fun w => by cases w) t2496 (by decide) s2610
  have s2693 := gSg.rawat g2614 rf2573 (fun w => by cases w) t2496 (by decide) eh2569
  have pr2694 : gNo [1, 39, 40, 41, 42] ty2611 := gNo.gr g2614 (by decide) (gNo.sub (by decide) pr2567)
  have sS2695 : gSs rT 1027 ty2611 [8999, 10999, 31999] h2612 h2612 := gSs.rf g2614.1
  refine gs_rput rfl (by decide) rfl sS2695.1 t2621 nx rw2617.2.1 rf2618 rfl (Or.inr rfl) (fun h2696 g2697 nh2696 mh2696 kh2696 zh2696 eh2696 fh2696 => ?_)
  have G2698 : gSg [1, 2, 3, 4, 5, 6, 7, 8, 9, 10, 11, 12, 13, 14, 15, 16, 17, 18, 19, 20, 21, 22, 23, 24, 25, 26, 27, 28, 29, 30, 31, 32, 33, 34, 35, 36, 37, 38, 39, 40, 41, 42, 200] [x] [8999, 10999, 31999] ty h ty2611 h2696 := gSg.tr (gSg.ss G2616 sS2695 (by decide)) g2697 (by decide) (by decide) (fun x hx => Or.inr hx)
  have sS2699 : gSs rT 1027 ty2611 [8999, 10999, 31999] h2696 h2696 := gSs.rf g2697.1
  have rf2700 := Nat.lt_of_lt_of_eq rw2617.2.1 nh2696.symm
  have rf2701 := zh2696.trans rf2619
  have dd2702 : ∀ k, ¬ k ∈ ([70, 69, 68, 66, 65, 63, 60, 58, 57, 56, 55, 54, 49, 40, 38, 37, 36, 35, 34, 33, 32, 31, 30, 29, 28, 27, 26, 25, 15, 14, 13, 12, 11, 10, 9, 4, 2] : List Nat) → h2696.2.2.2.2 x k = defaultValue (gGG.2.1 12 k) := raw_dp fh2696 dd2620
  have s2703 := (fh2696 2 (by decide)).trans s2658
  have s2704 := (fh2696 4 (by decide)).trans s2659
  have s2705 := (fh2696 9 (by decide)).trans s2660
  have s2706 := (fh2696 10 (by decide)).trans s2661
  have s2707 := (fh2696 11 (by decide)).trans s2662
  have s2708 := (fh2696 12 (by decide)).trans s2663
  have s2709 := (fh2696 13 (by decide)).trans s2664
  have s2710 := (fh2696 14 (by decide)).trans s2665
  have s2711 := (fh2696 15 (by decide)).trans s2666
  have s2712 := (fh2696 25 (by decide)).trans s2667
  have s2713 := (fh2696 26 (by decide)).trans s2668
  have s2714 := (fh2696 27 (by decide)).trans s2669
  have s2715 := (fh2696 28 (by decide)).trans s2670
  have s2716 := (fh2696 29 (by decide)).trans s2671
  have s2717 := (fh2696 30 (by decide)).trans s2672
  have s2718 := (fh2696 31 (by decide)).trans s2673
  have s2719 := (fh2696 32 (by decide)).trans s2674
  have s2720 := (fh2696 33 (by decide)).trans s2675
  have s2721 := (fh2696 34 (by decide)).trans s2676
  have s2722 := (fh2696 35 (by decide)).trans s2677
  have s2723 := (fh2696 36 (by decide)).trans s2678
  have s2724 := (fh2696 37 (by decide)).trans s2679
  have s2725 := (fh2696 38 (by decide)).trans s2680
  have s2726 := (fh2696 40 (by decide)).trans s2681
  have s2727 := (fh2696 49 (by decide)).trans s2682
  have s2728 := (fh2696 54 (by decide)).trans s2683
  have s2729 := (fh2696 55 (by decide)).trans s2684
  have s2730 := (fh2696 56 (by decide)).trans s2685
  have s2731 := (fh2696 57 (by decide)).trans s2686
  have s2732 := (fh2696 58 (by decide)).trans s2687
  have s2733 := (fh2696 60 (by decide)).trans s2688
  have s2734 := (fh2696 63 (by decide)).trans s2689
  have s2735 := (fh2696 65 (by decide)).trans s2690
  have s2736 := (fh2696 66 (by decide)).trans s2691
  have s2737 := (fh2696 68 (by decide)).trans s2692
  have s2738 := (fh2696 69 (by decide)).trans s2693
  refine gz_s 2 (pc' := 305) (L' := [some (.ref x), none, none, none, none]) (S' := [.int (zi 514), .ref x]) rfl ?_
  refine gs_newr 39 rfl (by decide) rfl sS2699.1 (Nat.le_of_lt (Nat.lt_of_le_of_lt (gJ.cell sS2699.1 t2622 rfl).1 (gJ.cell sS2699.1 t2622 rfl).2.1)) (by omega) (by omega) rfl rfl (by show (514 : Int) ≤ _; omega) (by show _ ≤ (514 : Int); omega) (fun _ _ => gos_i (by decide) (by decide)) (fun ty2739 h2740 c2741 g2742 tc2741 lc2741 nc2741 mc2741 ec2741 dc2741 uc2741 => ?_)
  have gac2741 : h.1 ≤ c2741 := by have h8 := G2698.2.1; have h9 := sS2699.2.1; omega
  have uq2743 := uc2741 uq2615 (Or.inr (gNo.sub (by decide) pr2694))
  have G2744 : gSg [1, 2, 3, 4, 5, 6, 7, 8, 9, 10, 11, 12, 13, 14, 15, 16, 17, 18, 19, 20, 21, 22, 23, 24, 25, 26, 27, 28, 29, 30, 31, 32, 33, 34, 35, 36, 37, 38, 39, 40, 41, 42, 200] [x] [8999, 10999, 31999] ty h ty2739 h2740 := gSg.tr (gSg.ss G2698 sS2699 (by decide)) g2742 (by decide) (by decide) (fun x hx => by cases hx)
  have rw2745 := gSg.raw g2742 rf2700 (fun w => by cases w)
  have rf2746 := (rw2745.2.2.1.trans kh2696)
  have rf2747 := (rw2745.2.2.2.trans rf2701)
  have dd2748 := gSg.rawd (ci := 12) (ps := [70, 69, 68, 66, 65, 63, 60, 58, 57, 56, 55, 54, 49, 40, 38, 37, 36, 35, 34, 33, 32, 31, 30, 29, 28, 27, 26, 25, 15, 14, 13, 12, 11, 10, 9, 4, 2]) g2742 rf2700 (fun w => by cases w) t2621 (by decide) dd2702
  have t2749 : ty2739 x = 200 := rw2745.1.trans t2621
  have t2750 : ty2739 c3 = 2 := gSg.typ g2742 sS2699.1 t2622 rfl
  have t2751 : ty2739 c23 = 3 := gSg.typ g2742 sS2699.1 t2623 rfl
  have t2752 : ty2739 c46 = 4 := gSg.typ g2742 sS2699.1 t2624 rfl
  have t2753 : ty2739 c72 = 5 := gSg.typ g2742 sS2699.1 t2625 rfl
  have t2754 : ty2739 c101 = 6 := gSg.typ g2742 sS2699.1 t2626 rfl
  have t2755 : ty2739 c133 = 7 := gSg.typ g2742 sS2699.1 t2627 rfl
  have t2756 : ty2739 c168 = 8 := gSg.typ g2742 sS2699.1 t2628 rfl
  have t2757 : ty2739 c206 = 9 := gSg.typ g2742 sS2699.1 t2629 rfl
  have t2758 : ty2739 c247 = 10 := gSg.typ g2742 sS2699.1 t2630 rfl
  have t2759 : ty2739 c291 = 11 := gSg.typ g2742 sS2699.1 t2631 rfl
  have t2760 : ty2739 c338 = 12 := gSg.typ g2742 sS2699.1 t2632 rfl
  have t2761 : ty2739 c388 = 13 := gSg.typ g2742 sS2699.1 t2633 rfl
  have t2762 : ty2739 c441 = 14 := gSg.typ g2742 sS2699.1 t2634 rfl
  have t2763 : ty2739 c497 = 15 := gSg.typ g2742 sS2699.1 t2635 rfl
  have t2764 : ty2739 c556 = 16 := gSg.typ g2742 sS2699.1 t2636 rfl
  have t2765 : ty2739 c618 = 17 := gSg.typ g2742 sS2699.1 t2637 rfl
  have t2766 : ty2739 c683 = 18 := gSg.typ g2742 sS2699.1 t2638 rfl
  have t2767 : ty2739 c751 = 19 := gSg.typ g2742 sS2699.1 t2639 rfl
  have t2768 : ty2739 c822 = 20 := gSg.typ g2742 sS2699.1 t2640 rfl
  have t2769 : ty2739 c896 = 21 := gSg.typ g2742 sS2699.1 t2641 rfl
  have t2770 : ty2739 c973 = 22 := gSg.typ g2742 sS2699.1 t2642 rfl
  have t2771 : ty2739 c1053 = 23 := gSg.typ g2742 sS2699.1 t2643 rfl
  have t2772 : ty2739 c1136 = 24 := gSg.typ g2742 sS2699.1 t2644 rfl
  have t2773 : ty2739 c1222 = 25 := gSg.typ g2742 sS2699.1 t2645 rfl
  have t2774 : ty2739 c1311 = 26 := gSg.typ g2742 sS2699.1 t2646 rfl
  have t2775 : ty2739 c1403 = 27 := gSg.typ g2742 sS2699.1 t2647 rfl
  have t2776 : ty2739 c1498 = 28 := gSg.typ g2742 sS2699.1 t2648 rfl
  have t2777 : ty2739 c1596 = 29 := gSg.typ g2742 sS2699.1 t2649 rfl
  have t2778 : ty2739 c1697 = 30 := gSg.typ g2742 sS2699.1 t2650 rfl
  have t2779 : ty2739 c1801 = 31 := gSg.typ g2742 sS2699.1 t2651 rfl
  have t2780 : ty2739 c1908 = 32 := gSg.typ g2742 sS2699.1 t2652 rfl
  have t2781 : ty2739 c2018 = 33 := gSg.typ g2742 sS2699.1 t2653 rfl
  have t2782 : ty2739 c2131 = 34 := gSg.typ g2742 sS2699.1 t2654 rfl
  have t2783 : ty2739 c2247 = 35 := gSg.typ g2742 sS2699.1 t2655 rfl
  have t2784 : ty2739 c2366 = 36 := gSg.typ g2742 sS2699.1 t2656 rfl
  have t2785 : ty2739 c2488 = 37 := gSg.typ g2742 sS2699.1 t2657 rfl
  have t2786 : ty2739 c2613 = 38 := gSg.typ g2742 sS2699.1 tc2613 rfl
  have s2787 := gSg.rawat g2742 rf2700 (fun w => by cases w) t2621 (by decide) s2703
  have s2788 := gSg.rawat g2742 rf2700 (fun w => by cases w) t2621 (by decide) s2704
  have s2789 := gSg.rawat g2742 rf2700 (fun w => by cases w) t2621 (by decide) s2705
  have s2790 := gSg.rawat g2742 rf2700 (fun w => by cases w) t2621 (by decide) s2706
  have s2791 := gSg.rawat g2742 rf2700 (fun w => by cases w) t2621 (by decide) s2707
  have s2792 := gSg.rawat g2742 rf2700 (fun w => by cases w) t2621 (by decide) s2708
  have s2793 := gSg.rawat g2742 rf2700 (fun w => by cases w) t2621 (by decide) s2709
  have s2794 := gSg.rawat g2742 rf2700 (fun w => by cases w) t2621 (by decide) s2710
  have s2795 := gSg.rawat g2742 rf2700 (fun w => by cases w) t2621 (by decide) s2711
  have s2796 := gSg.rawat g2742 rf2700 (fun w => by cases w) t2621 (by decide) s2712
  have s2797 := gSg.rawat g2742 rf2700 (fun w => by cases w) t2621 (by decide) s2713
  have s2798 := gSg.rawat g2742 rf2700 (fun w => by cases w) t2621 (by decide) s2714
  have s2799 := gSg.rawat g2742 rf2700 (fun w => by cases w) t2621 (by decide) s2715
  have s2800 := gSg.rawat g2742 rf2700 (fun w => by cases w) t2621 (by decide) s2716
  have s2801 := gSg.rawat g2742 rf2700 (fun w => by cases w) t2621 (by decide) s2717
  have s2802 := gSg.rawat g2742 rf2700 (fun w => by cases w) t2621 (by decide) s2718
  have s2803 := gSg.rawat g2742 rf2700 (fun w => by cases w) t2621 (by decide) s2719
  have s2804 := gSg.rawat g2742 rf2700 (fun w => by cases w) t2621 (by decide) s2720
  have s2805 := gSg.rawat g2742 rf2700 (fun w => by cases w) t2621 (by decide) s2721
  have s2806 := gSg.rawat g2742 rf2700 (fun w => by cases w) t2621 (by decide) s2722
  have s2807 := gSg.rawat g2742 rf2700 (fun w => by cases w) t2621 (by decide) s2723
  have s2808 := gSg.rawat g2742 rf2700 (fun w => by cases w) t2621 (by decide) s2724
  have s2809 := gSg.rawat g2742 rf2700 (fun w => by cases w) t2621 (by decide) s2725
  have s2810 := gSg.rawat g2742 rf2700 (fun w => by cases w) t2621 (by decide) s2726
  have s2811 := gSg.rawat g2742 rf2700 (fun w => by cases w) t2621 (by decide) s2727
  have s2812 := gSg.rawat g2742 rf2700 (fun w => by cases w) t2621 (by decide) s2728
  have s2813 := gSg.rawat g2742 rf2700 (fun w => by cases w) t2621 (by decide) s2729
  have s2814 := gSg.rawat g2742 rf2700 (fun w => by cases w) t2621 (by decide) s2730
  have s2815 := gSg.rawat g2742 rf2700 (fun w => by cases w) t2621 (by decide) s2731
  have s2816 := gSg.rawat g2742 rf2700 (fun w => by cases w) t2621 (by decide) s2732
  have s2817 := gSg.rawat g2742 rf2700 (fun w => by cases w) t2621 (by decide) s2733
  have s2818 := gSg.rawat g2742 rf2700 (fun w => by cases w) t2621 (by decide) s2734
  have s2819 := gSg.rawat g2742 rf2700 (fun w => by cases w) t2621 (by decide) s2735
  have s2820 := gSg.rawat g2742 rf2700 (fun w => by cases w) t2621 (by decide) s2736
  have s2821 := gSg.rawat g2742 rf2700 (fun w => by cases w) t2621 (by decide) s2737
  have s2822 := gSg.rawat g2742 rf2700 (fun w => by cases w) t2621 (by decide) s2738
  have s2823 := gSg.rawat g2742 rf2700 (fun w => by cases w) t2621 (by decide) eh2696
  have pr2824 : gNo [1, 40, 41, 42] ty2739 := gNo.gr g2742 (by decide) (gNo.sub (by decide) pr2694)
  have sS2825 : gSs rT 1027 ty2739 [8999, 10999, 31999] h2740 h2740 := gSs.rf g2742.1
  refine gs_rput rfl (by decide) rfl sS2825.1 t2749 nx rw2745.2.1 rf2746 rfl (Or.inr rfl) (fun h2826 g2827 nh2826 mh2826 kh2826 zh2826 eh2826 fh2826 => ?_)
  have G2828 : gSg [1, 2, 3, 4, 5, 6, 7, 8, 9, 10, 11, 12, 13, 14, 15, 16, 17, 18, 19, 20, 21, 22, 23, 24, 25, 26, 27, 28, 29, 30, 31, 32, 33, 34, 35, 36, 37, 38, 39, 40, 41, 42, 200] [x] [8999, 10999, 31999] ty h ty2739 h2826 := gSg.tr (gSg.ss G2744 sS2825 (by decide)) g2827 (by decide) (by decide) (fun x hx => Or.inr hx)
  have sS2829 : gSs rT 1027 ty2739 [8999, 10999, 31999] h2826 h2826 := gSs.rf g2827.1
  have rf2830 := Nat.lt_of_lt_of_eq rw2745.2.1 nh2826.symm
  have rf2831 := zh2826.trans rf2747
  have dd2832 : ∀ k, ¬ k ∈ ([71, 70, 69, 68, 66, 65, 63, 60, 58, 57, 56, 55, 54, 49, 40, 38, 37, 36, 35, 34, 33, 32, 31, 30, 29, 28, 27, 26, 25, 15, 14, 13, 12, 11, 10, 9, 4, 2] : List Nat) → h2826.2.2.2.2 x k = defaultValue (gGG.2.1 12 k) := raw_dp fh2826 dd2748
  have s2833 := (fh2826 2 (by decide)).trans s2787
  have s2834 := (fh2826 4 (by decide)).trans s2788
  have s2835 := (fh2826 9 (by decide)).trans s2789
  have s2836 := (fh2826 10 (by decide)).trans s2790
  have s2837 := (fh2826 11 (by decide)).trans s2791
  have s2838 := (fh2826 12 (by decide)).trans s2792
  have s2839 := (fh2826 13 (by decide)).trans s2793
  have s2840 := (fh2826 14 (by decide)).trans s2794
  have s2841 := (fh2826 15 (by decide)).trans s2795
  have s2842 := (fh2826 25 (by decide)).trans s2796
  have s2843 := (fh2826 26 (by decide)).trans s2797
  have s2844 := (fh2826 27 (by decide)).trans s2798
  have s2845 := (fh2826 28 (by decide)).trans s2799
  have s2846 := (fh2826 29 (by decide)).trans s2800
  have s2847 := (fh2826 30 (by decide)).trans s2801
  have s2848 := (fh2826 31 (by decide)).trans s2802
  have s2849 := (fh2826 32 (by decide)).trans s2803
  have s2850 := (fh2826 33 (by decide)).trans s2804
  have s2851 := (fh2826 34 (by decide)).trans s2805
  have s2852 := (fh2826 35 (by decide)).trans s2806
  have s2853 := (fh2826 36 (by decide)).trans s2807
  have s2854 := (fh2826 37 (by decide)).trans s2808
  have s2855 := (fh2826 38 (by decide)).trans s2809
  have s2856 := (fh2826 40 (by decide)).trans s2810
  have s2857 := (fh2826 49 (by decide)).trans s2811
  have s2858 := (fh2826 54 (by decide)).trans s2812
  have s2859 := (fh2826 55 (by decide)).trans s2813
  have s2860 := (fh2826 56 (by decide)).trans s2814
  have s2861 := (fh2826 57 (by decide)).trans s2815
  have s2862 := (fh2826 58 (by decide)).trans s2816
  have s2863 := (fh2826 60 (by decide)).trans s2817
  have s2864 := (fh2826 63 (by decide)).trans s2818
  have s2865 := (fh2826 65 (by decide)).trans s2819
  have s2866 := (fh2826 66 (by decide)).trans s2820
  have s2867 := (fh2826 68 (by decide)).trans s2821
  have s2868 := (fh2826 69 (by decide)).trans s2822
  have s2869 := (fh2826 70 (by decide)).trans s2823
  refine gz_s 2 (pc' := 314) (L' := [some (.ref x), none, none, none, none]) (S' := [.int (zi 514), .ref x]) rfl ?_
  refine gs_newr 40 rfl (by decide) rfl sS2829.1 (Nat.le_of_lt (Nat.lt_of_le_of_lt (gJ.cell sS2829.1 t2750 rfl).1 (gJ.cell sS2829.1 t2750 rfl).2.1)) (by omega) (by omega) rfl rfl (by show (514 : Int) ≤ _; omega) (by show _ ≤ (514 : Int); omega) (fun _ _ => gos_i (by decide) (by decide)) (fun ty2870 h2871 c2872 g2873 tc2872 lc2872 nc2872 mc2872 ec2872 dc2872 uc2872 => ?_)
  have gac2872 : h.1 ≤ c2872 := by have h8 := G2828.2.1; have h9 := sS2829.2.1; omega
  have uq2874 := uc2872 uq2743 (Or.inr (gNo.sub (by decide) pr2824))
  have G2875 : gSg [1, 2, 3, 4, 5, 6, 7, 8, 9, 10, 11, 12, 13, 14, 15, 16, 17, 18, 19, 20, 21, 22, 23, 24, 25, 26, 27, 28, 29, 30, 31, 32, 33, 34, 35, 36, 37, 38, 39, 40, 41, 42, 200] [x] [8999, 10999, 31999] ty h ty2870 h2871 := gSg.tr (gSg.ss G2828 sS2829 (by decide)) g2873 (by decide) (by decide) (fun x hx => by cases hx)
  have rw2876 := gSg.raw g2873 rf2830 (fun w => by cases w)
  have rf2877 := (rw2876.2.2.1.trans kh2826)
  have rf2878 := (rw2876.2.2.2.trans rf2831)
  have dd2879 := gSg.rawd (ci := 12) (ps := [71, 70, 69, 68, 66, 65, 63, 60, 58, 57, 56, 55, 54, 49, 40, 38, 37, 36, 35, 34, 33, 32, 31, 30, 29, 28, 27, 26, 25, 15, 14, 13, 12, 11, 10, 9, 4, 2]) g2873 rf2830 (fun w => by cases w) t2749 (by decide) dd2832
  have t2880 : ty2870 x = 200 := rw2876.1.trans t2749
  have t2881 : ty2870 c3 = 2 := gSg.typ g2873 sS2829.1 t2750 rfl
  have t2882 : ty2870 c23 = 3 := gSg.typ g2873 sS2829.1 t2751 rfl
  have t2883 : ty2870 c46 = 4 := gSg.typ g2873 sS2829.1 t2752 rfl
  have t2884 : ty2870 c72 = 5 := gSg.typ g2873 sS2829.1 t2753 rfl
  have t2885 : ty2870 c101 = 6 := gSg.typ g2873 sS2829.1 t2754 rfl
  have t2886 : ty2870 c133 = 7 := gSg.typ g2873 sS2829.1 t2755 rfl
  have t2887 : ty2870 c168 = 8 := gSg.typ g2873 sS2829.1 t2756 rfl
  have t2888 : ty2870 c206 = 9 := gSg.typ g2873 sS2829.1 t2757 rfl
  have t2889 : ty2870 c247 = 10 := gSg.typ g2873 sS2829.1 t2758 rfl
  have t2890 : ty2870 c291 = 11 := gSg.typ g2873 sS2829.1 t2759 rfl
  have t2891 : ty2870 c338 = 12 := gSg.typ g2873 sS2829.1 t2760 rfl
  have t2892 : ty2870 c388 = 13 := gSg.typ g2873 sS2829.1 t2761 rfl
  have t2893 : ty2870 c441 = 14 := gSg.typ g2873 sS2829.1 t2762 rfl
  have t2894 : ty2870 c497 = 15 := gSg.typ g2873 sS2829.1 t2763 rfl
  have t2895 : ty2870 c556 = 16 := gSg.typ g2873 sS2829.1 t2764 rfl
  have t2896 : ty2870 c618 = 17 := gSg.typ g2873 sS2829.1 t2765 rfl
  have t2897 : ty2870 c683 = 18 := gSg.typ g2873 sS2829.1 t2766 rfl
  have t2898 : ty2870 c751 = 19 := gSg.typ g2873 sS2829.1 t2767 rfl
  have t2899 : ty2870 c822 = 20 := gSg.typ g2873 sS2829.1 t2768 rfl
  have t2900 : ty2870 c896 = 21 := gSg.typ g2873 sS2829.1 t2769 rfl
  have t2901 : ty2870 c973 = 22 := gSg.typ g2873 sS2829.1 t2770 rfl
  have t2902 : ty2870 c1053 = 23 := gSg.typ g2873 sS2829.1 t2771 rfl
  have t2903 : ty2870 c1136 = 24 := gSg.typ g2873 sS2829.1 t2772 rfl
  have t2904 : ty2870 c1222 = 25 := gSg.typ g2873 sS2829.1 t2773 rfl
  have t2905 : ty2870 c1311 = 26 := gSg.typ g2873 sS2829.1 t2774 rfl
  have t2906 : ty2870 c1403 = 27 := gSg.typ g2873 sS2829.1 t2775 rfl
  have t2907 : ty2870 c1498 = 28 := gSg.typ g2873 sS2829.1 t2776 rfl
  have t2908 : ty2870 c1596 = 29 := gSg.typ g2873 sS2829.1 t2777 rfl
  have t2909 : ty2870 c1697 = 30 := gSg.typ g2873 sS2829.1 t2778 rfl
  have t2910 : ty2870 c1801 = 31 := gSg.typ g2873 sS2829.1 t2779 rfl
  have t2911 : ty2870 c1908 = 32 := gSg.typ g2873 sS2829.1 t2780 rfl
  have t2912 : ty2870 c2018 = 33 := gSg.typ g2873 sS2829.1 t2781 rfl
  have t2913 : ty2870 c2131 = 34 := gSg.typ g2873 sS2829.1 t2782 rfl
  have t2914 : ty2870 c2247 = 35 := gSg.typ g2873 sS2829.1 t2783 rfl
  have t2915 : ty2870 c2366 = 36 := gSg.typ g2873 sS2829.1 t2784 rfl
  have t2916 : ty2870 c2488 = 37 := gSg.typ g2873 sS2829.1 t2785 rfl
  have t2917 : ty2870 c2613 = 38 := gSg.typ g2873 sS2829.1 t2786 rfl
  have t2918 : ty2870 c2741 = 39 := gSg.typ g2873 sS2829.1 tc2741 rfl
  have s2919 := gSg.rawat g2873 rf2830 (fun w => by cases w) t2749 (by decide) s2833
  have s2920 := gSg.rawat g2873 rf2830 (fun w => by cases w) t2749 (by decide) s2834
  have s2921 := gSg.rawat g2873 rf2830 (fun w => by cases w) t2749 (by decide) s2835
  have s2922 := gSg.rawat g2873 rf2830 (fun w => by cases w) t2749 (by decide) s2836
  have s2923 := gSg.rawat g2873 rf2830 (fun w => by cases w) t2749 (by decide) s2837
  have s2924 := gSg.rawat g2873 rf2830 (fun w => by cases w) t2749 (by decide) s2838
  have s2925 := gSg.rawat g2873 rf2830 (fun w => by cases w) t2749 (by decide) s2839
  have s2926 := gSg.rawat g2873 rf2830 (fun w => by cases w) t2749 (by decide) s2840
  have s2927 := gSg.rawat g2873 rf2830 (fun w => by cases w) t2749 (by decide) s2841
  have s2928 := gSg.rawat g2873 rf2830 (fun w => by cases w) t2749 (by decide) s2842
  have s2929 := gSg.rawat g2873 rf2830 (fun w => by cases w) t2749 (by decide) s2843
  have s2930 := gSg.rawat g2873 rf2830 (fun w => by cases w) t2749 (by decide) s2844
  have s2931 := gSg.rawat g2873 rf2830 (fun w => by cases w) t2749 (by decide) s2845
  have s2932 := gSg.rawat g2873 rf2830 (fun w => by cases w) t2749 (by decide) s2846
  have s2933 := gSg.rawat g2873 rf2830 (fun w => by cases w) t2749 (by decide) s2847
  have s2934 := gSg.rawat g2873 rf2830 (fun w => by cases w) t2749 (by decide) s2848
  have s2935 := gSg.rawat g2873 rf2830 (fun w => by cases w) t2749 (by decide) s2849
  have s2936 := gSg.rawat g2873 rf2830 (fun w => by cases w) t2749 (by decide) s2850
  have s2937 := gSg.rawat g2873 rf2830 (fun w => by cases w) t2749 (by decide) s2851
  have s2938 := gSg.rawat g2873 rf2830 (fun w => by cases w) t2749 (by decide) s2852
  have s2939 := gSg.rawat g2873 rf2830 (fun w => by cases w) t2749 (by decide) s2853
  have s2940 := gSg.rawat g2873 rf2830 (fun w => by cases w) t2749 (by decide) s2854
  have s2941 := gSg.rawat g2873 rf2830 (fun w => by cases w) t2749 (by decide) s2855
  have s2942 := gSg.rawat g2873 rf2830 (fun w => by cases w) t2749 (by decide) s2856
  have s2943 := gSg.rawat g2873 rf2830 (fun w => by cases w) t2749 (by decide) s2857
  have s2944 := gSg.rawat g2873 rf2830 (fun w => by cases w) t2749 (by decide) s2858
  have s2945 := gSg.rawat g2873 rf2830 (fun w => by cases w) t2749 (by decide) s2859
  have s2946 := gSg.rawat g2873 rf2830 (fun w => by cases w) t2749 (by decide) s2860
  have s2947 := gSg.rawat g2873 rf2830 (fun w => by cases w) t2749 (by decide) s2861
  have s2948 := gSg.rawat g2873 rf2830 (fun w => by cases w) t2749 (by decide) s2862
  have s2949 := gSg.rawat g2873 rf2830 (fun w => by cases w) t2749 (by decide) s2863
  have s2950 := gSg.rawat g2873 rf2830 (fun w => by cases w) t2749 (by decide) s2864
  have s2951 := gSg.rawat g2873 rf2830 (fun w => by cases w) t2749 (by decide) s2865
  have s2952 := gSg.rawat g2873 rf2830 (fun w => by cases w) t2749 (by decide) s2866
  have s2953 := gSg.rawat g2873 rf2830 (fun w => by cases w) t2749 (by decide) s2867
  have s2954 := gSg.rawat g2873 rf2830 (fun w => by cases w) t2749 (by decide) s2868
  have s2955 := gSg.rawat g2873 rf2830 (fun w => by cases w) t2749 (by decide) s2869
  have s2956 := gSg.rawat g2873 rf2830 (fun w => by cases w) t2749 (by decide) eh2826
  have pr2957 : gNo [1, 41, 42] ty2870 := gNo.gr g2873 (by decide) (gNo.sub (by decide) pr2824)
  have sS2958 : gSs rT 1027 ty2870 [8999, 10999, 31999] h2871 h2871 := gSs.rf g2873.1
  refine gs_rput rfl (by decide) rfl sS2958.1 t2880 nx rw2876.2.1 rf2877 rfl (Or.inr rfl) (fun h2959 g2960 nh2959 mh2959 kh2959 zh2959 eh2959 fh2959 => ?_)
  have G2961 : gSg [1, 2, 3, 4, 5, 6, 7, 8, 9, 10, 11, 12, 13, 14, 15, 16, 17, 18, 19, 20, 21, 22, 23, 24, 25, 26, 27, 28, 29, 30, 31, 32, 33, 34, 35, 36, 37, 38, 39, 40, 41, 42, 200] [x] [8999, 10999, 31999] ty h ty2870 h2959 := gSg.tr (gSg.ss G2875 sS2958 (by decide)) g2960 (by decide) (by decide) (fun x hx => Or.inr hx)
  have sS2962 : gSs rT 1027 ty2870 [8999, 10999, 31999] h2959 h2959 := gSs.rf g2960.1
  have rf2963 := Nat.lt_of_lt_of_eq rw2876.2.1 nh2959.symm
  have rf2964 := zh2959.trans rf2878
  have dd2965 : ∀ k, ¬ k ∈ ([72, 71, 70, 69, 68, 66, 65, 63, 60, 58, 57, 56, 55, 54, 49, 40, 38, 37, 36, 35, 34, 33, 32, 31, 30, 29, 28, 27, 26, 25, 15, 14, 13, 12, 11, 10, 9, 4, 2] : List Nat) → h2959.2.2.2.2 x k = defaultValue (gGG.2.1 12 k) := raw_dp fh2959 dd2879
  have s2966 := (fh2959 2 (by decide)).trans s2919
  have s2967 := (fh2959 4 (by decide)).trans s2920
  have s2968 := (fh2959 9 (by decide)).trans s2921
  have s2969 := (fh2959 10 (by decide)).trans s2922
  have s2970 := (fh2959 11 (by decide)).trans s2923
  have s2971 := (fh2959 12 (by decide)).trans s2924
  have s2972 := (fh2959 13 (by decide)).trans s2925
  have s2973 := (fh2959 14 (by decide)).trans s2926
  have s2974 := (fh2959 15 (by decide)).trans s2927
  have s2975 := (fh2959 25 (by decide)).trans s2928
  have s2976 := (fh2959 26 (by decide)).trans s2929
  have s2977 := (fh2959 27 (by decide)).trans s2930
  have s2978 := (fh2959 28 (by decide)).trans s2931
  have s2979 := (fh2959 29 (by decide)).trans s2932
  have s2980 := (fh2959 30 (by decide)).trans s2933
  have s2981 := (fh2959 31 (by decide)).trans s2934
  have s2982 := (fh2959 32 (by decide)).trans s2935
  have s2983 := (fh2959 33 (by decide)).trans s2936
  have s2984 := (fh2959 34 (by decide)).trans s2937
  have s2985 := (fh2959 35 (by decide)).trans s2938
  have s2986 := (fh2959 36 (by decide)).trans s2939
  have s2987 := (fh2959 37 (by decide)).trans s2940
  have s2988 := (fh2959 38 (by decide)).trans s2941
  have s2989 := (fh2959 40 (by decide)).trans s2942
  have s2990 := (fh2959 49 (by decide)).trans s2943
  have s2991 := (fh2959 54 (by decide)).trans s2944
  have s2992 := (fh2959 55 (by decide)).trans s2945
  have s2993 := (fh2959 56 (by decide)).trans s2946
  have s2994 := (fh2959 57 (by decide)).trans s2947
  have s2995 := (fh2959 58 (by decide)).trans s2948
  have s2996 := (fh2959 60 (by decide)).trans s2949
  have s2997 := (fh2959 63 (by decide)).trans s2950
  have s2998 := (fh2959 65 (by decide)).trans s2951
  have s2999 := (fh2959 66 (by decide)).trans s2952
  have s3000 := (fh2959 68 (by decide)).trans s2953
  have s3001 := (fh2959 69 (by decide)).trans s2954
  have s3002 := (fh2959 70 (by decide)).trans s2955
  have s3003 := (fh2959 71 (by decide)).trans s2956
  refine gz_s 2 (pc' := 323) (L' := [some (.ref x), none, none, none, none]) (S' := [.int (zi 514), .ref x]) rfl ?_
  refine gs_newr 41 rfl (by decide) rfl sS2962.1 (Nat.le_of_lt (Nat.lt_of_le_of_lt (gJ.cell sS2962.1 t2881 rfl).1 (gJ.cell sS2962.1 t2881 rfl).2.1)) (by omega) (by omega) rfl rfl (by show (514 : Int) ≤ _; omega) (by show _ ≤ (514 : Int); omega) (fun _ _ => gos_i (by decide) (by decide)) (fun ty3004 h3005 c3006 g3007 tc3006 lc3006 nc3006 mc3006 ec3006 dc3006 uc3006 => ?_)
  have gac3006 : h.1 ≤ c3006 := by have h8 := G2961.2.1; have h9 := sS2962.2.1; omega
  have uq3008 := uc3006 uq2874 (Or.inr (gNo.sub (by decide) pr2957))
  have G3009 : gSg [1, 2, 3, 4, 5, 6, 7, 8, 9, 10, 11, 12, 13, 14, 15, 16, 17, 18, 19, 20, 21, 22, 23, 24, 25, 26, 27, 28, 29, 30, 31, 32, 33, 34, 35, 36, 37, 38, 39, 40, 41, 42, 200] [x] [8999, 10999, 31999] ty h ty3004 h3005 := gSg.tr (gSg.ss G2961 sS2962 (by decide)) g3007 (by decide) (by decide) (fun x hx => by cases hx)
  have rw3010 := gSg.raw g3007 rf2963 (fun w => by cases w)
  have rf3011 := (rw3010.2.2.1.trans kh2959)
  have rf3012 := (rw3010.2.2.2.trans rf2964)
  have dd3013 := gSg.rawd (ci := 12) (ps := [72, 71, 70, 69, 68, 66, 65, 63, 60, 58, 57, 56, 55, 54, 49, 40, 38, 37, 36, 35, 34, 33, 32, 31, 30, 29, 28, 27, 26, 25, 15, 14, 13, 12, 11, 10, 9, 4, 2]) g3007 rf2963 (fun w => by cases w) t2880 (by decide) dd2965
  have t3014 : ty3004 x = 200 := rw3010.1.trans t2880
  have t3015 : ty3004 c3 = 2 := gSg.typ g3007 sS2962.1 t2881 rfl
  have t3016 : ty3004 c23 = 3 := gSg.typ g3007 sS2962.1 t2882 rfl
  have t3017 : ty3004 c46 = 4 := gSg.typ g3007 sS2962.1 t2883 rfl
  have t3018 : ty3004 c72 = 5 := gSg.typ g3007 sS2962.1 t2884 rfl
  have t3019 : ty3004 c101 = 6 := gSg.typ g3007 sS2962.1 t2885 rfl
  have t3020 : ty3004 c133 = 7 := gSg.typ g3007 sS2962.1 t2886 rfl
  have t3021 : ty3004 c168 = 8 := gSg.typ g3007 sS2962.1 t2887 rfl
  have t3022 : ty3004 c206 = 9 := gSg.typ g3007 sS2962.1 t2888 rfl
  have t3023 : ty3004 c247 = 10 := gSg.typ g3007 sS2962.1 t2889 rfl
  have t3024 : ty3004 c291 = 11 := gSg.typ g3007 sS2962.1 t2890 rfl
  have t3025 : ty3004 c338 = 12 := gSg.typ g3007 sS2962.1 t2891 rfl
  have t3026 : ty3004 c388 = 13 := gSg.typ g3007 sS2962.1 t2892 rfl
  have t3027 : ty3004 c441 = 14 := gSg.typ g3007 sS2962.1 t2893 rfl
  have t3028 : ty3004 c497 = 15 := gSg.typ g3007 sS2962.1 t2894 rfl
  have t3029 : ty3004 c556 = 16 := gSg.typ g3007 sS2962.1 t2895 rfl
  have t3030 : ty3004 c618 = 17 := gSg.typ g3007 sS2962.1 t2896 rfl
  have t3031 : ty3004 c683 = 18 := gSg.typ g3007 sS2962.1 t2897 rfl
  have t3032 : ty3004 c751 = 19 := gSg.typ g3007 sS2962.1 t2898 rfl
  have t3033 : ty3004 c822 = 20 := gSg.typ g3007 sS2962.1 t2899 rfl
  have t3034 : ty3004 c896 = 21 := gSg.typ g3007 sS2962.1 t2900 rfl
  have t3035 : ty3004 c973 = 22 := gSg.typ g3007 sS2962.1 t2901 rfl
  have t3036 : ty3004 c1053 = 23 := gSg.typ g3007 sS2962.1 t2902 rfl
  have t3037 : ty3004 c1136 = 24 := gSg.typ g3007 sS2962.1 t2903 rfl
  have t3038 : ty3004 c1222 = 25 := gSg.typ g3007 sS2962.1 t2904 rfl
  have t3039 : ty3004 c1311 = 26 := gSg.typ g3007 sS2962.1 t2905 rfl
  have t3040 : ty3004 c1403 = 27 := gSg.typ g3007 sS2962.1 t2906 rfl
  have t3041 : ty3004 c1498 = 28 := gSg.typ g3007 sS2962.1 t2907 rfl
  have t3042 : ty3004 c1596 = 29 := gSg.typ g3007 sS2962.1 t2908 rfl
  have t3043 : ty3004 c1697 = 30 := gSg.typ g3007 sS2962.1 t2909 rfl
  have t3044 : ty3004 c1801 = 31 := gSg.typ g3007 sS2962.1 t2910 rfl
  have t3045 : ty3004 c1908 = 32 := gSg.typ g3007 sS2962.1 t2911 rfl
  have t3046 : ty3004 c2018 = 33 := gSg.typ g3007 sS2962.1 t2912 rfl
  have t3047 : ty3004 c2131 = 34 := gSg.typ g3007 sS2962.1 t2913 rfl
  have t3048 : ty3004 c2247 = 35 := gSg.typ g3007 sS2962.1 t2914 rfl
  have t3049 : ty3004 c2366 = 36 := gSg.typ g3007 sS2962.1 t2915 rfl
  have t3050 : ty3004 c2488 = 37 := gSg.typ g3007 sS2962.1 t2916 rfl
  have t3051 : ty3004 c2613 = 38 := gSg.typ g3007 sS2962.1 t2917 rfl
  have t3052 : ty3004 c2741 = 39 := gSg.typ g3007 sS2962.1 t2918 rfl
  have t3053 : ty3004 c2872 = 40 := gSg.typ g3007 sS2962.1 tc2872 rfl
  have s3054 := gSg.rawat g3007 rf2963 (fun w => by cases w) t2880 (by decide) s2966
  have s3055 := gSg.rawat g3007 rf2963 (fun w => by cases w) t2880 (by decide) s2967
  have s3056 := gSg.rawat g3007 rf2963 (fun w => by cases w) t2880 (by decide) s2968
  have s3057 := gSg.rawat g3007 rf2963 (fun w => by cases w) t2880 (by decide) s2969
  have s3058 := gSg.rawat g3007 rf2963 (fun w => by cases w) t2880 (by decide) s2970
  have s3059 := gSg.rawat g3007 rf2963 (fun w => by cases w) t2880 (by decide) s2971
  have s3060 := gSg.rawat g3007 rf2963 (fun w => by cases w) t2880 (by decide) s2972
  have s3061 := gSg.rawat g3007 rf2963 (fun w => by cases w) t2880 (by decide) s2973
  have s3062 := gSg.rawat g3007 rf2963 (fun w => by cases w) t2880 (by decide) s2974
  have s3063 := gSg.rawat g3007 rf2963 (fun w => by cases w) t2880 (by decide) s2975
  have s3064 := gSg.rawat g3007 rf2963 (fun w => by cases w) t2880 (by decide) s2976
  have s3065 := gSg.rawat g3007 rf2963 (fun w => by cases w) t2880 (by decide) s2977
  have s3066 := gSg.rawat g3007 rf2963 (fun w => by cases w) t2880 (by decide) s2978
  have s3067 := gSg.rawat g3007 rf2963 (fun w => by cases w) t2880 (by decide) s2979
  have s3068 := gSg.rawat g3007 rf2963 (fun w => by cases w) t2880 (by decide) s2980
  have s3069 := gSg.rawat g3007 rf2963 (fun w => by cases w) t2880 (by decide) s2981
  have s3070 := gSg.rawat g3007 rf2963 (fun w => by cases w) t2880 (by decide) s2982
  have s3071 := gSg.rawat g3007 rf2963 (fun w => by cases w) t2880 (by decide) s2983
  have s3072 := gSg.rawat g3007 rf2963 (fun w => by cases w) t2880 (by decide) s2984
  have s3073 := gSg.rawat g3007 rf2963 (fun w => by cases w) t2880 (by decide) s2985
  have s3074 := gSg.rawat g3007 rf2963 (fun w => by cases w) t2880 (by decide) s2986
  have s3075 := gSg.rawat g3007 rf2963 (fun w => by cases w) t2880 (by decide) s2987
  have s3076 := gSg.rawat g3007 rf2963 (fun w => by cases w) t2880 (by decide) s2988
  have s3077 := gSg.rawat g3007 rf2963 (fun w => by cases w) t2880 (by decide) s2989
  have s3078 := gSg.rawat g3007 rf2963 (fun w => by cases w) t2880 (by decide) s2990
  have s3079 := gSg.rawat g3007 rf2963 (fun w => by cases w) t2880 (by decide) s2991
  have s3080 := gSg.rawat g3007 rf2963 (fun w => by cases w) t2880 (by decide) s2992
  have s3081 := gSg.rawat g3007 rf2963 (fun w => by cases w) t2880 (by decide) s2993
  have s3082 := gSg.rawat g3007 rf2963 (fun w => by cases w) t2880 (by decide) s2994
  have s3083 := gSg.rawat g3007 rf2963 (fun w => by cases w) t2880 (by decide) s2995
  have s3084 := gSg.rawat g3007 rf2963 (fun w => by cases w) t2880 (by decide) s2996
  have s3085 := gSg.rawat g3007 rf2963 (fun w => by cases w) t2880 (by decide) s2997
  have s3086 := gSg.rawat g3007 rf2963 (fun w => by cases w) t2880 (by decide) s2998
  have s3087 := gSg.rawat g3007 rf2963 (fun w => by cases w) t2880 (by decide) s2999
  have s3088 := gSg.rawat g3007 rf2963 (fun w => by cases w) t2880 (by decide) s3000
  have s3089 := gSg.rawat g3007 rf2963 (fun w => by cases w) t2880 (by decide) s3001
  have s3090 := gSg.rawat g3007 rf2963 (fun w => by cases w) t2880 (by decide) s3002
  have s3091 := gSg.rawat g3007 rf2963 (fun w => by cases w) t2880 (by decide) s3003
  have s3092 := gSg.rawat g3007 rf2963 (fun w => by cases w) t2880 (by decide) eh2959
  have pr3093 : gNo [1, 42] ty3004 := gNo.gr g3007 (by decide) (gNo.sub (by decide) pr2957)
  have sS3094 : gSs rT 1027 ty3004 [8999, 10999, 31999] h3005 h3005 := gSs.rf g3007.1
  refine gs_rput rfl (by decide) rfl sS3094.1 t3014 nx rw3010.2.1 rf3011 rfl (Or.inr rfl) (fun h3095 g3096 nh3095 mh3095 kh3095 zh3095 eh3095 fh3095 => ?_)
  have G3097 : gSg [1, 2, 3, 4, 5, 6, 7, 8, 9, 10, 11, 12, 13, 14, 15, 16, 17, 18, 19, 20, 21, 22, 23, 24, 25, 26, 27, 28, 29, 30, 31, 32, 33, 34, 35, 36, 37, 38, 39, 40, 41, 42, 200] [x] [8999, 10999, 31999] ty h ty3004 h3095 := gSg.tr (gSg.ss G3009 sS3094 (by decide)) g3096 (by decide) (by decide) (fun x hx => Or.inr hx)
  have sS3098 : gSs rT 1027 ty3004 [8999, 10999, 31999] h3095 h3095 := gSs.rf g3096.1
  have rf3099 := Nat.lt_of_lt_of_eq rw3010.2.1 nh3095.symm
  have rf3100 := zh3095.trans rf3012
  have dd3101 : ∀ k, ¬ k ∈ ([73, 72, 71, 70, 69, 68, 66, 65, 63, 60, 58, 57, 56, 55, 54, 49, 40, 38, 37, 36, 35, 34, 33, 32, 31, 30, 29, 28, 27, 26, 25, 15, 14, 13, 12, 11, 10, 9, 4, 2] : List Nat) → h3095.2.2.2.2 x k = defaultValue (gGG.2.1 12 k) := raw_dp fh3095 dd3013
  have s3102 := (fh3095 2 (by decide)).trans s3054
  have s3103 := (fh3095 4 (by decide)).trans s3055
  have s3104 := (fh3095 9 (by decide)).trans s3056
  have s3105 := (fh3095 10 (by decide)).trans s3057
  have s3106 := (fh3095 11 (by decide)).trans s3058
  have s3107 := (fh3095 12 (by decide)).trans s3059
  have s3108 := (fh3095 13 (by decide)).trans s3060
  have s3109 := (fh3095 14 (by decide)).trans s3061
  have s3110 := (fh3095 15 (by decide)).trans s3062
  have s3111 := (fh3095 25 (by decide)).trans s3063
  have s3112 := (fh3095 26 (by decide)).trans s3064
  have s3113 := (fh3095 27 (by decide)).trans s3065
  have s3114 := (fh3095 28 (by decide)).trans s3066
  have s3115 := (fh3095 29 (by decide)).trans s3067
  have s3116 := (fh3095 30 (by decide)).trans s3068
  have s3117 := (fh3095 31 (by decide)).trans s3069
  have s3118 := (fh3095 32 (by decide)).trans s3070
  have s3119 := (fh3095 33 (by decide)).trans s3071
  have s3120 := (fh3095 34 (by decide)).trans s3072
  have s3121 := (fh3095 35 (by decide)).trans s3073
  have s3122 := (fh3095 36 (by decide)).trans s3074
  have s3123 := (fh3095 37 (by decide)).trans s3075
  have s3124 := (fh3095 38 (by decide)).trans s3076
  have s3125 := (fh3095 40 (by decide)).trans s3077
  have s3126 := (fh3095 49 (by decide)).trans s3078
  have s3127 := (fh3095 54 (by decide)).trans s3079
  have s3128 := (fh3095 55 (by decide)).trans s3080
  have s3129 := (fh3095 56 (by decide)).trans s3081
  have s3130 := (fh3095 57 (by decide)).trans s3082
  have s3131 := (fh3095 58 (by decide)).trans s3083
  have s3132 := (fh3095 60 (by decide)).trans s3084
  have s3133 := (fh3095 63 (by decide)).trans s3085
  have s3134 := (fh3095 65 (by decide)).trans s3086
  have s3135 := (fh3095 66 (by decide)).trans s3087
  have s3136 := (fh3095 68 (by decide)).trans s3088
  have s3137 := (fh3095 69 (by decide)).trans s3089
  have s3138 := (fh3095 70 (by decide)).trans s3090
  have s3139 := (fh3095 71 (by decide)).trans s3091
  have s3140 := (fh3095 72 (by decide)).trans s3092
  refine gz_s 2 (pc' := 331) (L' := [some (.ref x), none, none, none, none]) (S' := [.int (zi 64), .ref x]) rfl ?_
  refine gs_newr 42 rfl (by decide) rfl sS3098.1 (Nat.le_of_lt (Nat.lt_of_le_of_lt (gJ.cell sS3098.1 t3015 rfl).1 (gJ.cell sS3098.1 t3015 rfl).2.1)) (by omega) (by omega) rfl rfl (by show (64 : Int) ≤ _; omega) (by show _ ≤ (64 : Int); omega) (fun _ _ => gos_i (by decide) (by decide)) (fun ty3141 h3142 c3143 g3144 tc3143 lc3143 nc3143 mc3143 ec3143 dc3143 uc3143 => ?_)
  have gac3143 : h.1 ≤ c3143 := by have h8 := G3097.2.1; have h9 := sS3098.2.1; omega
  have uq3145 := uc3143 uq3008 (Or.inr (gNo.sub (by decide) pr3093))
  have G3146 : gSg [1, 2, 3, 4, 5, 6, 7, 8, 9, 10, 11, 12, 13, 14, 15, 16, 17, 18, 19, 20, 21, 22, 23, 24, 25, 26, 27, 28, 29, 30, 31, 32, 33, 34, 35, 36, 37, 38, 39, 40, 41, 42, 200] [x] [8999, 10999, 31999] ty h ty3141 h3142 := gSg.tr (gSg.ss G3097 sS3098 (by decide)) g3144 (by decide) (by decide) (fun x hx => by cases hx)
  have rw3147 := gSg.raw g3144 rf3099 (fun w => by cases w)
  have rf3148 := (rw3147.2.2.1.trans kh3095)
  have rf3149 := (rw3147.2.2.2.trans rf3100)
  have dd3150 := gSg.rawd (ci := 12) (ps := [73, 72, 71, 70, 69, 68, 66, 65, 63, 60, 58, 57, 56, 55, 54, 49, 40, 38, 37, 36, 35, 34, 33, 32, 31, 30, 29, 28, 27, 26, 25, 15, 14, 13, 12, 11, 10, 9, 4, 2]) g3144 rf3099 (fun w => by cases w) t3014 (by decide) dd3101
  have t3151 : ty3141 x = 200 := rw3147.1.trans t3014
  have t3152 : ty3141 c3 = 2 := gSg.typ g3144 sS3098.1 t3015 rfl
  have t3153 : ty3141 c23 = 3 := gSg.typ g3144 sS3098.1 t3016 rfl
  have t3154 : ty3141 c46 = 4 := gSg.typ g3144 sS3098.1 t3017 rfl
  have t3155 : ty3141 c72 = 5 := gSg.typ g3144 sS3098.1 t3018 rfl
  have t3156 : ty3141 c101 = 6 := gSg.typ g3144 sS3098.1 t3019 rfl
  have t3157 : ty3141 c133 = 7 := gSg.typ g3144 sS3098.1 t3020 rfl
  have t3158 : ty3141 c168 = 8 := gSg.typ g3144 sS3098.1 t3021 rfl
  have t3159 : ty3141 c206 = 9 := gSg.typ g3144 sS3098.1 t3022 rfl
  have t3160 : ty3141 c247 = 10 := gSg.typ g3144 sS3098.1 t3023 rfl
  have t3161 : ty3141 c291 = 11 := gSg.typ g3144 sS3098.1 t3024 rfl
  have t3162 : ty3141 c338 = 12 := gSg.typ g3144 sS3098.1 t3025 rfl
  have t3163 : ty3141 c388 = 13 := gSg.typ g3144 sS3098.1 t3026 rfl
  have t3164 : ty3141 c441 = 14 := gSg.typ g3144 sS3098.1 t3027 rfl
  have t3165 : ty3141 c497 = 15 := gSg.typ g3144 sS3098.1 t3028 rfl
  have t3166 : ty3141 c556 = 16 := gSg.typ g3144 sS3098.1 t3029 rfl
  have t3167 : ty3141 c618 = 17 := gSg.typ g3144 sS3098.1 t3030 rfl
  have t3168 : ty3141 c683 = 18 := gSg.typ g3144 sS3098.1 t3031 rfl
  have t3169 : ty3141 c751 = 19 := gSg.typ g3144 sS3098.1 t3032 rfl
  have t3170 : ty3141 c822 = 20 := gSg.typ g3144 sS3098.1 t3033 rfl
  have t3171 : ty3141 c896 = 21 := gSg.typ g3144 sS3098.1 t3034 rfl
  have t3172 : ty3141 c973 = 22 := gSg.typ g3144 sS3098.1 t3035 rfl
  have t3173 : ty3141 c1053 = 23 := gSg.typ g3144 sS3098.1 t3036 rfl
  have t3174 : ty3141 c1136 = 24 := gSg.typ g3144 sS3098.1 t3037 rfl
  have t3175 : ty3141 c1222 = 25 := gSg.typ g3144 sS3098.1 t3038 rfl
  have t3176 : ty3141 c1311 = 26 := gSg.typ g3144 sS3098.1 t3039 rfl
  have t3177 : ty3141 c1403 = 27 := gSg.typ g3144 sS3098.1 t3040 rfl
  have t3178 : ty3141 c1498 = 28 := gSg.typ g3144 sS3098.1 t3041 rfl
  have t3179 : ty3141 c1596 = 29 := gSg.typ g3144 sS3098.1 t3042 rfl
  have t3180 : ty3141 c1697 = 30 := gSg.typ g3144 sS3098.1 t3043 rfl
  have t3181 : ty3141 c1801 = 31 := gSg.typ g3144 sS3098.1 t3044 rfl
  have t3182 : ty3141 c1908 = 32 := gSg.typ g3144 sS3098.1 t3045 rfl
  have t3183 : ty3141 c2018 = 33 := gSg.typ g3144 sS3098.1 t3046 rfl
  have t3184 : ty3141 c2131 = 34 := gSg.typ g3144 sS3098.1 t3047 rfl
  have t3185 : ty3141 c2247 = 35 := gSg.typ g3144 sS3098.1 t3048 rfl
  have t3186 : ty3141 c2366 = 36 := gSg.typ g3144 sS3098.1 t3049 rfl
  have t3187 : ty3141 c2488 = 37 := gSg.typ g3144 sS3098.1 t3050 rfl
  have t3188 : ty3141 c2613 = 38 := gSg.typ g3144 sS3098.1 t3051 rfl
  have t3189 : ty3141 c2741 = 39 := gSg.typ g3144 sS3098.1 t3052 rfl
  have t3190 : ty3141 c2872 = 40 := gSg.typ g3144 sS3098.1 t3053 rfl
  have t3191 : ty3141 c3006 = 41 := gSg.typ g3144 sS3098.1 tc3006 rfl
  have s3192 := gSg.rawat g3144 rf3099 (fun w => by cases w) t3014 (by decide) s3102
  have s3193 := gSg.rawat g3144 rf3099 (fun w => by cases w) t3014 (by decide) s3103
  have s3194 := gSg.rawat g3144 rf3099 (fun w => by cases w) t3014 (by decide) s3104
  have s3195 := gSg.rawat g3144 rf3099 (fun w => by cases w) t3014 (by decide) s3105
  have s3196 := gSg.rawat g3144 rf3099 (fun w => by cases w) t3014 (by decide) s3106
  have s3197 := gSg.rawat g3144 rf3099 (fun w => by cases w) t3014 (by decide) s3107
  have s3198 := gSg.rawat g3144 rf3099 (fun w => by cases w) t3014 (by decide) s3108
  have s3199 := gSg.rawat g3144 rf3099 (fun w => by cases w) t3014 (by decide) s3109
  have s3200 := gSg.rawat g3144 rf3099 (fun w => by cases w) t3014 (by decide) s3110
  have s3201 := gSg.rawat g3144 rf3099 (fun w => by cases w) t3014 (by decide) s3111
  have s3202 := gSg.rawat g3144 rf3099 (fun w => by cases w) t3014 (by decide) s3112
  have s3203 := gSg.rawat g3144 rf3099 (fun w => by cases w) t3014 (by decide) s3113
  have s3204 := gSg.rawat g3144 rf3099 (fun w => by cases w) t3014 (by decide) s3114
  have s3205 := gSg.rawat g3144 rf3099 (fun w => by cases w) t3014 (by decide) s3115
  have s3206 := gSg.rawat g3144 rf3099 (fun w => by cases w) t3014 (by decide) s3116
  have s3207 := gSg.rawat g3144 rf3099 (fun w => by cases w) t3014 (by decide) s3117
  have s3208 := gSg.rawat g3144 rf3099 (fun w => by cases w) t3014 (by decide) s3118
  have s3209 := gSg.rawat g3144 rf3099 (fun w => by cases w) t3014 (by decide) s3119
  have s3210 := gSg.rawat g3144 rf3099 (fun w => by cases w) t3014 (by decide) s3120
  have s3211 := gSg.rawat g3144 rf3099 (fun w => by cases w) t3014 (by decide) s3121
  have s3212 := gSg.rawat g3144 rf3099 (fun w => by cases w) t3014 (by decide) s3122
  have s3213 := gSg.rawat g3144 rf3099 (fun w => by cases w) t3014 (by decide) s3123
  have s3214 := gSg.rawat g3144 rf3099 (fun w => by cases w) t3014 (by decide) s3124
  have s3215 := gSg.rawat g3144 rf3099 (fun w => by cases w) t3014 (by decide) s3125
  have s3216 := gSg.rawat g3144 rf3099 (fun w => by cases w) t3014 (by decide) s3126
  have s3217 := gSg.rawat g3144 rf3099 (fun w => by cases w) t3014 (by decide) s3127
  have s3218 := gSg.rawat g3144 rf3099 (fun w => by cases w) t3014 (by decide) s3128
  have s3219 := gSg.rawat g3144 rf3099 (fun w => by cases w) t3014 (by decide) s3129
  have s3220 := gSg.rawat g3144 rf3099 (fun w => by cases w) t3014 (by decide) s3130
  have s3221 := gSg.rawat g3144 rf3099 (fun w => by cases w) t3014 (by decide) s3131
  have s3222 := gSg.rawat g3144 rf3099 (fun w => by cases w) t3014 (by decide) s3132
  have s3223 := gSg.rawat g3144 rf3099 (fun w => by cases w) t3014 (by decide) s3133
  have s3224 := gSg.rawat g3144 rf3099 (fun w => by cases w) t3014 (by decide) s3134
  have s3225 := gSg.rawat g3144 rf3099 (fun w => by cases w) t3014 (by decide) s3135
  have s3226 := gSg.rawat g3144 rf3099 (fun w => by cases w) t3014 (by decide) s3136
  have s3227 := gSg.rawat g3144 rf3099 (fun w => by cases w) t3014 (by decide) s3137
  have s3228 := gSg.rawat g3144 rf3099 (fun w => by cases w) t3014 (by decide) s3138
  have s3229 := gSg.rawat g3144 rf3099 (fun w => by cases w) t3014 (by decide) s3139
  have s3230 := gSg.rawat g3144 rf3099 (fun w => by cases w) t3014 (by decide) s3140
  have s3231 := gSg.rawat g3144 rf3099 (fun w => by cases w) t3014 (by decide) eh3095
  have pr3232 : gNo [1] ty3141 := gNo.gr g3144 (by decide) (gNo.sub (by decide) pr3093)
  have sS3233 : gSs rT 1027 ty3141 [8999, 10999, 31999] h3142 h3142 := gSs.rf g3144.1
  refine gs_rput rfl (by decide) rfl sS3233.1 t3151 nx rw3147.2.1 rf3148 rfl (Or.inr rfl) (fun h3234 g3235 nh3234 mh3234 kh3234 zh3234 eh3234 fh3234 => ?_)
  have G3236 : gSg [1, 2, 3, 4, 5, 6, 7, 8, 9, 10, 11, 12, 13, 14, 15, 16, 17, 18, 19, 20, 21, 22, 23, 24, 25, 26, 27, 28, 29, 30, 31, 32, 33, 34, 35, 36, 37, 38, 39, 40, 41, 42, 200] [x] [8999, 10999, 31999] ty h ty3141 h3234 := gSg.tr (gSg.ss G3146 sS3233 (by decide)) g3235 (by decide) (by decide) (fun x hx => Or.inr hx)
  have sS3237 : gSs rT 1027 ty3141 [8999, 10999, 31999] h3234 h3234 := gSs.rf g3235.1
  have rf3238 := Nat.lt_of_lt_of_eq rw3147.2.1 nh3234.symm
  have rf3239 := zh3234.trans rf3149
  have dd3240 : ∀ k, ¬ k ∈ ([76, 73, 72, 71, 70, 69, 68, 66, 65, 63, 60, 58, 57, 56, 55, 54, 49, 40, 38, 37, 36, 35, 34, 33, 32, 31, 30, 29, 28, 27, 26, 25, 15, 14, 13, 12, 11, 10, 9, 4, 2] : List Nat) → h3234.2.2.2.2 x k = defaultValue (gGG.2.1 12 k) := raw_dp fh3234 dd3150
  have s3241 := (fh3234 2 (by decide)).trans s3192
  have s3242 := (fh3234 4 (by decide)).trans s3193
  have s3243 := (fh3234 9 (by decide)).trans s3194
  have s3244 := (fh3234 10 (by decide)).trans s3195
  have s3245 := (fh3234 11 (by decide)).trans s3196
  have s3246 := (fh3234 12 (by decide)).trans s3197
  have s3247 := (fh3234 13 (by decide)).trans s3198
  have s3248 := (fh3234 14 (by decide)).trans s3199
  have s3249 := (fh3234 15 (by decide)).trans s3200
  have s3250 := (fh3234 25 (by decide)).trans s3201
  have s3251 := (fh3234 26 (by decide)).trans s3202
  have s3252 := (fh3234 27 (by decide)).trans s3203
  have s3253 := (fh3234 28 (by decide)).trans s3204
  have s3254 := (fh3234 29 (by decide)).trans s3205
  have s3255 := (fh3234 30 (by decide)).trans s3206
  have s3256 := (fh3234 31 (by decide)).trans s3207
  have s3257 := (fh3234 32 (by decide)).trans s3208
  have s3258 := (fh3234 33 (by decide)).trans s3209
  have s3259 := (fh3234 34 (by decide)).trans s3210
  have s3260 := (fh3234 35 (by decide)).trans s3211
  have s3261 := (fh3234 36 (by decide)).trans s3212
  have s3262 := (fh3234 37 (by decide)).trans s3213
  have s3263 := (fh3234 38 (by decide)).trans s3214
  have s3264 := (fh3234 40 (by decide)).trans s3215
  have s3265 := (fh3234 49 (by decide)).trans s3216
  have s3266 := (fh3234 54 (by decide)).trans s3217
  have s3267 := (fh3234 55 (by decide)).trans s3218
  have s3268 := (fh3234 56 (by decide)).trans s3219
  have s3269 := (fh3234 57 (by decide)).trans s3220
  have s3270 := (fh3234 58 (by decide)).trans s3221
  have s3271 := (fh3234 60 (by decide)).trans s3222
  have s3272 := (fh3234 63 (by decide)).trans s3223
  have s3273 := (fh3234 65 (by decide)).trans s3224
  have s3274 := (fh3234 66 (by decide)).trans s3225
  have s3275 := (fh3234 68 (by decide)).trans s3226
  have s3276 := (fh3234 69 (by decide)).trans s3227
  have s3277 := (fh3234 70 (by decide)).trans s3228
  have s3278 := (fh3234 71 (by decide)).trans s3229
  have s3279 := (fh3234 72 (by decide)).trans s3230
  have s3280 := (fh3234 73 (by decide)).trans s3231
  refine gz_s 2 (pc' := 338) (L' := [some (.ref x), some (.int (zi 0)), none, none, none]) (S' := []) rfl ?_
  have lp3281 : ∀ (fu : Nat) (ty3283 : Nat → Nat) (h3282 : gH) (k : Int), (257 - k).toNat < fu → gSg [1, 2, 3, 4, 5, 6, 7, 8, 9, 10, 11, 12, 13, 14, 15, 16, 17, 18, 19, 20, 21, 22, 23, 24, 25, 26, 27, 28, 29, 30, 31, 32, 33, 34, 35, 36, 37, 38, 39, 40, 41, 42, 200] [x] [8999, 10999, 31999] ty h ty3283 h3282 → gUq ty3283 → ty3283 x = 200 → ty3283 c3 = 2 → ty3283 c23 = 3 → ty3283 c46 = 4 → ty3283 c72 = 5 → ty3283 c101 = 6 → ty3283 c133 = 7 → ty3283 c168 = 8 → ty3283 c206 = 9 → ty3283 c247 = 10 → ty3283 c291 = 11 → ty3283 c338 = 12 → ty3283 c388 = 13 → ty3283 c441 = 14 → ty3283 c497 = 15 → ty3283 c556 = 16 → ty3283 c618 = 17 → ty3283 c683 = 18 → ty3283 c751 = 19 → ty3283 c822 = 20 → ty3283 c896 = 21 → ty3283 c973 = 22 → ty3283 c1053 = 23 → ty3283 c1136 = 24 → ty3283 c1222 = 25 → ty3283 c1311 = 26 → ty3283 c1403 = 27 → ty3283 c1498 = 28 → ty3283 c1596 = 29 → ty3283 c1697 = 30 → ty3283 c1801 = 31 → ty3283 c1908 = 32 → ty3283 c2018 = 33 → ty3283 c2131 = 34 → ty3283 c2247 = 35 → ty3283 c2366 = 36 → ty3283 c2488 = 37 → ty3283 c2613 = 38 → ty3283 c2741 = 39 → ty3283 c2872 = 40 → ty3283 c3006 = 41 → ty3283 c3143 = 42 → (0 ≤ k ∧ k ≤ 256) → h3282.2.2.2.2 x 2 = .ref c3 → h3282.2.2.2.2 x 4 = .ref c23 → h3282.2.2.2.2 x 9 = .ref c46 → h3282.2.2.2.2 x 10 = .ref c72 → h3282.2.2.2.2 x 11 = .ref c101 → h3282.2.2.2.2 x 12 = .ref c133 → h3282.2.2.2.2 x 13 = .ref c168 → h3282.2.2.2.2 x 14 = .ref c206 → h3282.2.2.2.2 x 15 = .ref c247 → h3282.2.2.2.2 x 25 = .ref c291 → h3282.2.2.2.2 x 26 = .ref c338 → h3282.2.2.2.2 x 27 = .ref c388 → h3282.2.2.2.2 x 28 = .ref c441 → h3282.2.2.2.2 x 29 = .ref c497 → h3282.2.2.2.2 x 30 = .ref c556 → h3282.2.2.2.2 x 31 = .ref c618 → h3282.2.2.2.2 x 32 = .ref c683 → h3282.2.2.2.2 x 33 = .ref c751 → h3282.2.2.2.2 x 34 = .ref c822 → h3282.2.2.2.2 x 35 = .ref c896 → h3282.2.2.2.2 x 36 = .ref c973 → h3282.2.2.2.2 x 37 = .ref c1053 → h3282.2.2.2.2 x 38 = .ref c1136 → h3282.2.2.2.2 x 40 = .ref c1222 → h3282.2.2.2.2 x 49 = .ref c1311 → h3282.2.2.2.2 x 54 = .ref c1403 → h3282.2.2.2.2 x 55 = .ref c1498 → h3282.2.2.2.2 x 56 = .ref c1596 → h3282.2.2.2.2 x 57 = .ref c1697 → h3282.2.2.2.2 x 58 = .ref c1801 → h3282.2.2.2.2 x 60 = .ref c1908 → h3282.2.2.2.2 x 63 = .ref c2018 → h3282.2.2.2.2 x 65 = .ref c2131 → h3282.2.2.2.2 x 66 = .ref c2247 → h3282.2.2.2.2 x 68 = .ref c2366 → h3282.2.2.2.2 x 69 = .ref c2488 → h3282.2.2.2.2 x 70 = .ref c2613 → h3282.2.2.2.2 x 71 = .ref c2741 → h3282.2.2.2.2 x 72 = .ref c2872 → h3282.2.2.2.2 x 73 = .ref c3006 → h3282.2.2.2.2 x 76 = .ref c3143 → gNo [1] ty3283 → x < h3282.1 → h3282.2.2.1 x = some (.inr 12) → h3282.2.2.2.1 x = 0 → (∀ k, ¬ k ∈ ([76, 73, 72, 71, 70, 69, 68, 66, 65, 63, 60, 58, 57, 56, 55, 54, 49, 40, 38, 37, 36, 35, 34, 33, 32, 31, 30, 29, 28, 27, 26, 25, 15, 14, 13, 12, 11, 10, 9, 4, 2] : List Nat) → h3282.2.2.2.2 x k = defaultValue (gGG.2.1 12 k)) → gz gPP gGG gcn (d + 1) gt130 338 [some (.ref x), some (.int (zi k)), none, none, none] [] h3282 (fun q _ => ∃ ty9 : Nat → Nat, gSg [1, 2, 3, 4, 5, 6, 7, 8, 9, 10, 11, 12, 13, 14, 15, 16, 17, 18, 19, 20, 21, 22, 23, 24, 25, 26, 27, 28, 29, 30, 31, 32, 33, 34, 35, 36, 37, 38, 39, 40, 41, 42, 200] [x] [8999, 10999, 31999] ty h ty9 q.2.2 ∧ ∃ ip n1 cw ch iv1 : Int, ty9 x = 1 ∧ gfin gt130 q.1 q.2.1 = some none ∧ q.2.2.2.2.2.2 x 16 = .int (zi ip) ∧ 0 ≤ ip ∧ ip ≤ 1 ∧ q.2.2.2.2.2.2 x 53 = .int (zi n1) ∧ 0 ≤ n1 ∧ n1 ≤ 10 ∧ q.2.2.2.2.2.2 x 50 = .int (zi cw) ∧ 0 ≤ cw ∧ cw ≤ 32 ∧ q.2.2.2.2.2.2 x 51 = .int (zi ch) ∧ 0 ≤ ch ∧ ch ≤ 32 ∧ q.2.2.2.2.2.2 x 52 = .int (zi iv1) ∧ 0 ≤ iv1 ∧ iv1 ≤ 100 ∧ (ip = 0) ∧ (n1 = 0) ∧ (cw = 0) ∧ (ch = 0) ∧ (iv1 = 0) ∧ ((q.2.2.1 : Int) = h.1 + 41) ∧ ((q.2.2.2.1 : Int) = h.2.1 + 88652) ∧ (gTs ty9 0 q.2.2) ∧ gUq ty9) := by
    intro fu
    induction fu with
    | zero => intro ty3283 h3282 k hm; exact absurd hm (Nat.not_lt_zero _)
    | succ fu ihlp3281 =>
      intro ty3283 h3282 k lp3281m lp3281G lp3281u lp3281c0 lp3281c1 lp3281c2 lp3281c3 lp3281c4 lp3281c5 lp3281c6 lp3281c7 lp3281c8 lp3281c9 lp3281c10 lp3281c11 lp3281c12 lp3281c13 lp3281c14 lp3281c15 lp3281c16 lp3281c17 lp3281c18 lp3281c19 lp3281c20 lp3281c21 lp3281c22 lp3281c23 lp3281c24 lp3281c25 lp3281c26 lp3281c27 lp3281c28 lp3281c29 lp3281c30 lp3281c31 lp3281c32 lp3281c33 lp3281c34 lp3281c35 lp3281c36 lp3281c37 lp3281c38 lp3281c39 lp3281c40 lp3281c41 lp3281f0 lp3281k0 lp3281k1 lp3281k2 lp3281k3 lp3281k4 lp3281k5 lp3281k6 lp3281k7 lp3281k8 lp3281k9 lp3281k10 lp3281k11 lp3281k12 lp3281k13 lp3281k14 lp3281k15 lp3281k16 lp3281k17 lp3281k18 lp3281k19 lp3281k20 lp3281k21 lp3281k22 lp3281k23 lp3281k24 lp3281k25 lp3281k26 lp3281k27 lp3281k28 lp3281k29 lp3281k30 lp3281k31 lp3281k32 lp3281k33 lp3281k34 lp3281k35 lp3281k36 lp3281k37 lp3281k38 lp3281k39 lp3281k40 lp3281k41 lp3281w0 lp3281w1 lp3281w2 lp3281w3
      have sh3282 : gSs rT 1027 ty3283 [8999, 10999, 31999] h3282 h3282 := gSs.rf lp3281G.1
      refine gz_s 2 (pc' := 342) (L' := [some (.ref x), some (.int (zi k)), none, none, none]) (S' := [.int (zi 256), .int (zi k)]) rfl ?_
      by_cases hc3284 : (256 : Int) ≤ k
      · refine gy_icT (pc' := 359) rfl (by decide) (by decide) (by omega) (by omega) hc3284 ?_
        refine gz_s 6 (pc' := 365) (L' := [some (.ref x), some (.int (zi 0)), some (.int (zi 0)), some (.int (zi 0)), none]) (S' := []) rfl ?_
        have hoy3286 : gOy ty3283 31 (-1) 0 h3282 := ⟨_, gRow.mk lp3281u lp3281c30 (by decide) (fun _ => rfl), fun j hj => absurd hj (by omega)⟩
        have lp3285 : ∀ (fu : Nat) (ty3288 : Nat → Nat) (h3287 : gH) (u : Int) (v : Int) (i : Int), (65 - i).toNat < fu → gSg [1, 2, 3, 4, 5, 6, 7, 8, 9, 10, 11, 12, 13, 14, 15, 16, 17, 18, 19, 20, 21, 22, 23, 24, 25, 26, 27, 28, 29, 30, 31, 32, 33, 34, 35, 36, 37, 38, 39, 40, 41, 42, 200] [x] [8999, 10999, 31999] ty h ty3288 h3287 → gUq ty3288 → ty3288 x = 200 → ty3288 c3 = 2 → ty3288 c23 = 3 → ty3288 c46 = 4 → ty3288 c72 = 5 → ty3288 c101 = 6 → ty3288 c133 = 7 → ty3288 c168 = 8 → ty3288 c206 = 9 → ty3288 c247 = 10 → ty3288 c291 = 11 → ty3288 c338 = 12 → ty3288 c388 = 13 → ty3288 c441 = 14 → ty3288 c497 = 15 → ty3288 c556 = 16 → ty3288 c618 = 17 → ty3288 c683 = 18 → ty3288 c751 = 19 → ty3288 c822 = 20 → ty3288 c896 = 21 → ty3288 c973 = 22 → ty3288 c1053 = 23 → ty3288 c1136 = 24 → ty3288 c1222 = 25 → ty3288 c1311 = 26 → ty3288 c1403 = 27 → ty3288 c1498 = 28 → ty3288 c1596 = 29 → ty3288 c1697 = 30 → ty3288 c1801 = 31 → ty3288 c1908 = 32 → ty3288 c2018 = 33 → ty3288 c2131 = 34 → ty3288 c2247 = 35 → ty3288 c2366 = 36 → ty3288 c2488 = 37 → ty3288 c2613 = 38 → ty3288 c2741 = 39 → ty3288 c2872 = 40 → ty3288 c3006 = 41 → ty3288 c3143 = 42 → (0 ≤ u ∧ u ≤ 8) → (0 ≤ v ∧ v ≤ 8) → (0 ≤ i ∧ i ≤ 64) → (u = gzu i.toNat) → (v = gzv i.toNat) → h3287.2.2.2.2 x 2 = .ref c3 → h3287.2.2.2.2 x 4 = .ref c23 → h3287.2.2.2.2 x 9 = .ref c46 → h3287.2.2.2.2 x 10 = .ref c72 → h3287.2.2.2.2 x 11 = .ref c101 → h3287.2.2.2.2 x 12 = .ref c133 → h3287.2.2.2.2 x 13 = .ref c168 → h3287.2.2.2.2 x 14 = .ref c206 → h3287.2.2.2.2 x 15 = .ref c247 → h3287.2.2.2.2 x 25 = .ref c291 → h3287.2.2.2.2 x 26 = .ref c338 → h3287.2.2.2.2 x 27 = .ref c388 → h3287.2.2.2.2 x 28 = .ref c441 → h3287.2.2.2.2 x 29 = .ref c497 → h3287.2.2.2.2 x 30 = .ref c556 → h3287.2.2.2.2 x 31 = .ref c618 → h3287.2.2.2.2 x 32 = .ref c683 → h3287.2.2.2.2 x 33 = .ref c751 → h3287.2.2.2.2 x 34 = .ref c822 → h3287.2.2.2.2 x 35 = .ref c896 → h3287.2.2.2.2 x 36 = .ref c973 → h3287.2.2.2.2 x 37 = .ref c1053 → h3287.2.2.2.2 x 38 = .ref c1136 → h3287.2.2.2.2 x 40 = .ref c1222 → h3287.2.2.2.2 x 49 = .ref c1311 → h3287.2.2.2.2 x 54 = .ref c1403 → h3287.2.2.2.2 x 55 = .ref c1498 → h3287.2.2.2.2 x 56 = .ref c1596 → h3287.2.2.2.2 x 57 = .ref c1697 → h3287.2.2.2.2 x 58 = .ref c1801 → h3287.2.2.2.2 x 60 = .ref c1908 → h3287.2.2.2.2 x 63 = .ref c2018 → h3287.2.2.2.2 x 65 = .ref c2131 → h3287.2.2.2.2 x 66 = .ref c2247 → h3287.2.2.2.2 x 68 = .ref c2366 → h3287.2.2.2.2 x 69 = .ref c2488 → h3287.2.2.2.2 x 70 = .ref c2613 → h3287.2.2.2.2 x 71 = .ref c2741 → h3287.2.2.2.2 x 72 = .ref c2872 → h3287.2.2.2.2 x 73 = .ref c3006 → h3287.2.2.2.2 x 76 = .ref c3143 → gNo [1] ty3288 → gOy ty3288 31 (-1) i h3287 → x < h3287.1 → h3287.2.2.1 x = some (.inr 12) → h3287.2.2.2.1 x = 0 → (∀ k, ¬ k ∈ ([76, 73, 72, 71, 70, 69, 68, 66, 65, 63, 60, 58, 57, 56, 55, 54, 49, 40, 38, 37, 36, 35, 34, 33, 32, 31, 30, 29, 28, 27, 26, 25, 15, 14, 13, 12, 11, 10, 9, 4, 2] : List Nat) → h3287.2.2.2.2 x k = defaultValue (gGG.2.1 12 k)) → gz gPP gGG gcn (d + 1) gt130 365 [some (.ref x), some (.int (zi u)), some (.int (zi v)), some (.int (zi i)), none] [] h3287 (fun q _ => ∃ ty9 : Nat → Nat, gSg [1, 2, 3, 4, 5, 6, 7, 8, 9, 10, 11, 12, 13, 14, 15, 16, 17, 18, 19, 20, 21, 22, 23, 24, 25, 26, 27, 28, 29, 30, 31, 32, 33, 34, 35, 36, 37, 38, 39, 40, 41, 42, 200] [x] [8999, 10999, 31999] ty h ty9 q.2.2 ∧ ∃ ip n1 cw ch iv1 : Int, ty9 x = 1 ∧ gfin gt130 q.1 q.2.1 = some none ∧ q.2.2.2.2.2.2 x 16 = .int (zi ip) ∧ 0 ≤ ip ∧ ip ≤ 1 ∧ q.2.2.2.2.2.2 x 53 = .int (zi n1) ∧ 0 ≤ n1 ∧ n1 ≤ 10 ∧ q.2.2.2.2.2.2 x 50 = .int (zi cw) ∧ 0 ≤ cw ∧ cw ≤ 32 ∧ q.2.2.2.2.2.2 x 51 = .int (zi ch) ∧ 0 ≤ ch ∧ ch ≤ 32 ∧ q.2.2.2.2.2.2 x 52 = .int (zi iv1) ∧ 0 ≤ iv1 ∧ iv1 ≤ 100 ∧ (ip = 0) ∧ (n1 = 0) ∧ (cw = 0) ∧ (ch = 0) ∧ (iv1 = 0) ∧ ((q.2.2.1 : Int) = h.1 + 41) ∧ ((q.2.2.2.1 : Int) = h.2.1 + 88652) ∧ (gTs ty9 0 q.2.2) ∧ gUq ty9) := by
          intro fu
          induction fu with
          | zero => intro ty3288 h3287 u v i hm; exact absurd hm (Nat.not_lt_zero _)
          | succ fu ihlp3285 =>
            intro ty3288 h3287 u v i lp3285m lp3285G lp3285u lp3285c0 lp3285c1 lp3285c2 lp3285c3 lp3285c4 lp3285c5 lp3285c6 lp3285c7 lp3285c8 lp3285c9 lp3285c10 lp3285c11 lp3285c12 lp3285c13 lp3285c14 lp3285c15 lp3285c16 lp3285c17 lp3285c18 lp3285c19 lp3285c20 lp3285c21 lp3285c22 lp3285c23 lp3285c24 lp3285c25 lp3285c26 lp3285c27 lp3285c28 lp3285c29 lp3285c30 lp3285c31 lp3285c32 lp3285c33 lp3285c34 lp3285c35 lp3285c36 lp3285c37 lp3285c38 lp3285c39 lp3285c40 lp3285c41 lp3285f0 lp3285f1 lp3285f2 lp3285f3 lp3285f4 lp3285k0 lp3285k1 lp3285k2 lp3285k3 lp3285k4 lp3285k5 lp3285k6 lp3285k7 lp3285k8 lp3285k9 lp3285k10 lp3285k11 lp3285k12 lp3285k13 lp3285k14 lp3285k15 lp3285k16 lp3285k17 lp3285k18 lp3285k19 lp3285k20 lp3285k21 lp3285k22 lp3285k23 lp3285k24 lp3285k25 lp3285k26 lp3285k27 lp3285k28 lp3285k29 lp3285k30 lp3285k31 lp3285k32 lp3285k33 lp3285k34 lp3285k35 lp3285k36 lp3285k37 lp3285k38 lp3285k39 lp3285k40 lp3285k41 lp3285k42 lp3285w0 lp3285w1 lp3285w2 lp3285w3
            have sh3287 : gSs rT 1027 ty3288 [8999, 10999, 31999] h3287 h3287 := gSs.rf lp3285G.1
            refine gz_s 2 (pc' := 368) (L' := [some (.ref x), some (.int (zi u)), some (.int (zi v)), some (.int (zi i)), none]) (S' := [.int (zi 64), .int (zi i)]) rfl ?_
            by_cases hc3289 : (64 : Int) ≤ i
            · refine gy_icT (pc' := 475) rfl (by decide) (by decide) (by omega) (by omega) hc3289 ?_
              have df3290 := (show h3287.2.2.2.2 x 0 = .int (zi 0) from lp3285w3 0 (by decide))
              have df3291 := (show h3287.2.2.2.2 x 1 = .int (zi 0) from lp3285w3 1 (by decide))
              have df3292 := (show h3287.2.2.2.2 x 3 = .int (zi 0) from lp3285w3 3 (by decide))
              have df3293 := (show h3287.2.2.2.2 x 5 = .int (zi 0) from lp3285w3 5 (by decide))
              have df3294 := (show h3287.2.2.2.2 x 6 = .int (zi 0) from lp3285w3 6 (by decide))
              have df3295 := (show h3287.2.2.2.2 x 7 = .int (zi 0) from lp3285w3 7 (by decide))
              have df3296 := (show h3287.2.2.2.2 x 8 = .int (zi 0) from lp3285w3 8 (by decide))
              have df3297 := (show h3287.2.2.2.2 x 16 = .int (zi 0) from lp3285w3 16 (by decide))
              have df3298 := (show h3287.2.2.2.2 x 17 = .int (zi 0) from lp3285w3 17 (by decide))
              have df3299 := (show h3287.2.2.2.2 x 18 = .int (zi 0) from lp3285w3 18 (by decide))
              have df3300 := (show h3287.2.2.2.2 x 19 = .int (zi 0) from lp3285w3 19 (by decide))
              have df3301 := (show h3287.2.2.2.2 x 20 = .int (zi 0) from lp3285w3 20 (by decide))
              have df3302 := (show h3287.2.2.2.2 x 21 = .int (zi 0) from lp3285w3 21 (by decide))
              have df3303 := (show h3287.2.2.2.2 x 22 = .int (zi 0) from lp3285w3 22 (by decide))
              have df3304 := (show h3287.2.2.2.2 x 23 = .int (zi 0) from lp3285w3 23 (by decide))
              have df3305 := (show h3287.2.2.2.2 x 24 = .int (zi 0) from lp3285w3 24 (by decide))
              have df3306 := (show h3287.2.2.2.2 x 39 = .int (zi 0) from lp3285w3 39 (by decide))
              have df3307 := (show h3287.2.2.2.2 x 41 = .int (zi 0) from lp3285w3 41 (by decide))
              have df3308 := (show h3287.2.2.2.2 x 42 = .int (zi 0) from lp3285w3 42 (by decide))
              have df3309 := (show h3287.2.2.2.2 x 43 = .int (zi 0) from lp3285w3 43 (by decide))
              have df3310 := (show h3287.2.2.2.2 x 44 = .int (zi 0) from lp3285w3 44 (by decide))
              have df3311 := (show h3287.2.2.2.2 x 45 = .int (zi 0) from lp3285w3 45 (by decide))
              have df3312 := (show h3287.2.2.2.2 x 46 = .int (zi 0) from lp3285w3 46 (by decide))
              have df3313 := (show h3287.2.2.2.2 x 47 = .int (zi 0) from lp3285w3 47 (by decide))
              have df3314 := (show h3287.2.2.2.2 x 48 = .int (zi 0) from lp3285w3 48 (by decide))
              have df3315 := (show h3287.2.2.2.2 x 50 = .int (zi 0) from lp3285w3 50 (by decide))
              have df3316 := (show h3287.2.2.2.2 x 51 = .int (zi 0) from lp3285w3 51 (by decide))
              have df3317 := (show h3287.2.2.2.2 x 52 = .int (zi 0) from lp3285w3 52 (by decide))
              have df3318 := (show h3287.2.2.2.2 x 53 = .int (zi 0) from lp3285w3 53 (by decide))
              have df3319 := (show h3287.2.2.2.2 x 59 = .int (zi 0) from lp3285w3 59 (by decide))
              have df3320 := (show h3287.2.2.2.2 x 61 = .int (zi 0) from lp3285w3 61 (by decide))
              have df3321 := (show h3287.2.2.2.2 x 62 = .int (zi 0) from lp3285w3 62 (by decide))
              have df3322 := (show h3287.2.2.2.2 x 64 = .int (zi 0) from lp3285w3 64 (by decide))
              have df3323 := (show h3287.2.2.2.2 x 67 = .int (zi 0) from lp3285w3 67 (by decide))
              have df3324 := (show h3287.2.2.2.2 x 74 = .int (zi 0) from lp3285w3 74 (by decide))
              have df3325 := (show h3287.2.2.2.2 x 75 = .int (zi 0) from lp3285w3 75 (by decide))
              obtain ⟨ty3327, g3326, tg3326, ug3326⟩ := gSg.adx 1 sh3287.1 lp3285c0 nx lp3285w0 rfl lp3285w1 (by show (0 : Nat) ≤ _; have h9 := lp3285w2; omega) (by show _ ≤ (0 : Nat); have h9 := lp3285w2; omega) (fun ty9 w9 k hk => ad1 (by rw [df3290]; exact ⟨0, rfl, by show (0 : Int) ≤ _; omega, by show _ ≤ (2 : Int); omega⟩) (by rw [df3291]; exact ⟨0, rfl, by show (0 : Int) ≤ _; omega, by show _ ≤ (2000 : Int); omega⟩) (by rw [lp3285k0]; exact ⟨c3, rfl, w9 c3 _ lp3285c1 (by decide)⟩) (by rw [df3292]; exact ⟨0, rfl, by show (0 : Int) ≤ _; omega, by show _ ≤ (2000 : Int); omega⟩) (by rw [lp3285k1]; exact ⟨c23, rfl, w9 c23 _ lp3285c2 (by decide)⟩) (by rw [df3293]; exact ⟨0, rfl, by show (0 : Int) ≤ _; omega, by show _ ≤ (4000 : Int); omega⟩) (by rw [df3294]; exact ⟨0, rfl, by show (0 : Int) ≤ _; omega, by show _ ≤ (2000 : Int); omega⟩) (by rw [df3295]; exact ⟨0, rfl, by show ((-1) : Int) ≤ _; omega, by show _ ≤ (4000 : Int); omega⟩) (by rw [df3296]; exact ⟨0, rfl, by show (0 : Int) ≤ _; omega, by show _ ≤ (65535 : Int); omega⟩) (by rw [lp3285k2]; exact ⟨c46, rfl, w9 c46 _ lp3285c3 (by decide)⟩) (by rw [lp3285k3]; exact ⟨c72, rfl, w9 c72 _ lp3285c4 (by decide)⟩) (by rw [lp3285k4]; exact ⟨c101, rfl, w9 c101 _ lp3285c5 (by decide)⟩) (by rw [lp3285k5]; exact ⟨c133, rfl, w9 c133 _ lp3285c6 (by decide)⟩) (by rw [lp3285k6]; exact ⟨c168, rfl, w9 c168 _ lp3285c7 (by decide)⟩) (by rw [lp3285k7]; exact ⟨c206, rfl, w9 c206 _ lp3285c8 (by decide)⟩) (by rw [lp3285k8]; exact ⟨c247, rfl, w9 c247 _ lp3285c9 (by decide)⟩) (by rw [df3297]; exact ⟨0, rfl, by show (0 : Int) ≤ _; omega, by show _ ≤ (1 : Int); omega⟩) (by rw [df3298]; exact ⟨0, rfl, by show (0 : Int) ≤ _; omega, by show _ ≤ (1 : Int); omega⟩) (by rw [df3299]; exact ⟨0, rfl, by show (0 : Int) ≤ _; omega, by show _ ≤ (64 : Int); omega⟩) (by rw [df3300]; exact ⟨0, rfl, by show (0 : Int) ≤ _; omega, by show _ ≤ (64 : Int); omega⟩) (by rw [df3301]; exact ⟨0, rfl, by show (0 : Int) ≤ _; omega, by show _ ≤ (3 : Int); omega⟩) (by rw [df3302]; exact ⟨0, rfl, by show (0 : Int) ≤ _; omega, by show _ ≤ (2 : Int); omega⟩) (by rw [df3303]; exact ⟨0, rfl, by show (0 : Int) ≤ _; omega, by show _ ≤ (2 : Int); omega⟩) (by rw [df3304]; exact ⟨0, rfl, by show (0 : Int) ≤ _; omega, by show _ ≤ (192 : Int); omega⟩) (by rw [df3305]; exact ⟨0, rfl, by show ((-2147483648) : Int) ≤ _; omega, by show _ ≤ (2147483647 : Int); omega⟩) (by rw [lp3285k9]; exact ⟨c291, rfl, w9 c291 _ lp3285c10 (by decide)⟩) (by rw [lp3285k10]; exact ⟨c338, rfl, w9 c338 _ lp3285c11 (by decide)⟩) (by rw [lp3285k11]; exact ⟨c388, rfl, w9 c388 _ lp3285c12 (by decide)⟩) (by rw [lp3285k12]; exact ⟨c441, rfl, w9 c441 _ lp3285c13 (by decide)⟩) (by rw [lp3285k13]; exact ⟨c497, rfl, w9 c497 _ lp3285c14 (by decide)⟩) (by rw [lp3285k14]; exact ⟨c556, rfl, w9 c556 _ lp3285c15 (by decide)⟩) (by rw [lp3285k15]; exact ⟨c618, rfl, w9 c618 _ lp3285c16 (by decide)⟩) (by rw [lp3285k16]; exact ⟨c683, rfl, w9 c683 _ lp3285c17 (by decide)⟩) (by rw [lp3285k17]; exact ⟨c751, rfl, w9 c751 _ lp3285c18 (by decide)⟩) (by rw [lp3285k18]; exact ⟨c822, rfl, w9 c822 _ lp3285c19 (by decide)⟩) (by rw [lp3285k19]; exact ⟨c896, rfl, w9 c896 _ lp3285c20 (by decide)⟩) (by rw [lp3285k20]; exact ⟨c973, rfl, w9 c973 _ lp3285c21 (by decide)⟩) (by rw [lp3285k21]; exact ⟨c1053, rfl, w9 c1053 _ lp3285c22 (by decide)⟩) (by rw [lp3285k22]; exact ⟨c1136, rfl, w9 c1136 _ lp3285c23 (by decide)⟩) (by rw [df3306]; exact ⟨0, rfl, by show (0 : Int) ≤ _; omega, by show _ ≤ (3 : Int); omega⟩) (by rw [lp3285k23]; exact ⟨c1222, rfl, w9 c1222 _ lp3285c24 (by decide)⟩) (by rw [df3307]; exact ⟨0, rfl, by show (0 : Int) ≤ _; omega, by show _ ≤ (255 : Int); omega⟩) (by rw [df3308]; exact ⟨0, rfl, by show (0 : Int) ≤ _; omega, by show _ ≤ (255 : Int); omega⟩) (by rw [df3309]; exact ⟨0, rfl, by show (0 : Int) ≤ _; omega, by show _ ≤ (15 : Int); omega⟩) (by rw [df3310]; exact ⟨0, rfl, by show (0 : Int) ≤ _; omega, by show _ ≤ (15 : Int); omega⟩) (by rw [df3311]; exact ⟨0, rfl, by show ((-2147483648) : Int) ≤ _; omega, by show _ ≤ (2147483647 : Int); omega⟩) (by rw [df3312]; exact ⟨0, rfl, by show (0 : Int) ≤ _; omega, by show _ ≤ (1 : Int); omega⟩) (by rw [df3313]; exact ⟨0, rfl, by show (0 : Int) ≤ _; omega, by show _ ≤ (4000 : Int); omega⟩) (by rw [df3314]; exact ⟨0, rfl, by show (0 : Int) ≤ _; omega, by show _ ≤ (8 : Int); omega⟩) (by rw [lp3285k24]; exact ⟨c1311, rfl, w9 c1311 _ lp3285c25 (by decide)⟩) (by rw [df3315]; exact ⟨0, rfl, by show (0 : Int) ≤ _; omega, by show _ ≤ (32 : Int); omega⟩) (by rw [df3316]; exact ⟨0, rfl, by show (0 : Int) ≤ _; omega, by show _ ≤ (32 : Int); omega⟩) (by rw [df3317]; exact ⟨0, rfl, by show (0 : Int) ≤ _; omega, by show _ ≤ (100 : Int); omega⟩) (by rw [df3318]; exact ⟨0, rfl, by show (0 : Int) ≤ _; omega, by show _ ≤ (10 : Int); omega⟩) (by rw [lp3285k25]; exact ⟨c1403, rfl, w9 c1403 _ lp3285c26 (by decide)⟩) (by rw [lp3285k26]; exact ⟨c1498, rfl, w9 c1498 _ lp3285c27 (by decide)⟩) (by rw [lp3285k27]; exact ⟨c1596, rfl, w9 c1596 _ lp3285c28 (by decide)⟩) (by rw [lp3285k28]; exact ⟨c1697, rfl, w9 c1697 _ lp3285c29 (by decide)⟩) (by rw [lp3285k29]; exact ⟨c1801, rfl, w9 c1801 _ lp3285c30 (by decide)⟩) (by rw [df3319]; exact ⟨0, rfl, by show (0 : Int) ≤ _; omega, by show _ ≤ (60000 : Int); omega⟩) (by rw [lp3285k30]; exact ⟨c1908, rfl, w9 c1908 _ lp3285c31 (by decide)⟩) (by rw [df3320]; exact ⟨0, rfl, by show ((-2147483648) : Int) ≤ _; omega, by show _ ≤ (2147483647 : Int); omega⟩) (by rw [df3321]; exact ⟨0, rfl, by show (0 : Int) ≤ _; omega, by show _ ≤ (8 : Int); omega⟩) (by rw [lp3285k31]; exact ⟨c2018, rfl, w9 c2018 _ lp3285c32 (by decide)⟩) (by rw [df3322]; exact ⟨0, rfl, by show (0 : Int) ≤ _; omega, by show _ ≤ (16 : Int); omega⟩) (by rw [lp3285k32]; exact ⟨c2131, rfl, w9 c2131 _ lp3285c33 (by decide)⟩) (by rw [lp3285k33]; exact ⟨c2247, rfl, w9 c2247 _ lp3285c34 (by decide)⟩) (by rw [df3323]; exact ⟨0, rfl, by show (0 : Int) ≤ _; omega, by show _ ≤ (1 : Int); omega⟩) (by rw [lp3285k34]; exact ⟨c2366, rfl, w9 c2366 _ lp3285c35 (by decide)⟩) (by rw [lp3285k35]; exact ⟨c2488, rfl, w9 c2488 _ lp3285c36 (by decide)⟩) (by rw [lp3285k36]; exact ⟨c2613, rfl, w9 c2613 _ lp3285c37 (by decide)⟩) (by rw [lp3285k37]; exact ⟨c2741, rfl, w9 c2741 _ lp3285c38 (by decide)⟩) (by rw [lp3285k38]; exact ⟨c2872, rfl, w9 c2872 _ lp3285c39 (by decide)⟩) (by rw [lp3285k39]; exact ⟨c3006, rfl, w9 c3006 _ lp3285c40 (by decide)⟩) (by rw [df3324]; exact ⟨0, rfl, by show ((-2048) : Int) ≤ _; omega, by show _ ≤ (2048 : Int); omega⟩) (by rw [df3325]; exact ⟨0, rfl, by show (0 : Int) ≤ _; omega, by show _ ≤ (64 : Int); omega⟩) (by rw [lp3285k40]; exact ⟨c3143, rfl, w9 c3143 _ lp3285c41 (by decide)⟩) k)
              have uq3328 := ug3326 lp3285u (Or.inr lp3285k41)
              have G3329 : gSg [1, 2, 3, 4, 5, 6, 7, 8, 9, 10, 11, 12, 13, 14, 15, 16, 17, 18, 19, 20, 21, 22, 23, 24, 25, 26, 27, 28, 29, 30, 31, 32, 33, 34, 35, 36, 37, 38, 39, 40, 41, 42, 200] [x] [8999, 10999, 31999] ty h ty3327 h3287 := gSg.tr (gSg.ss lp3285G sh3287 (by decide)) g3326 (by decide) (by decide) (fun x hx => Or.inr hx)
              have t3330 : ty3327 c3 = 2 := gSg.typ g3326 sh3287.1 lp3285c1 rfl
              have t3331 : ty3327 c23 = 3 := gSg.typ g3326 sh3287.1 lp3285c2 rfl
              have t3332 : ty3327 c46 = 4 := gSg.typ g3326 sh3287.1 lp3285c3 rfl
              have t3333 : ty3327 c72 = 5 := gSg.typ g3326 sh3287.1 lp3285c4 rfl
              have t3334 : ty3327 c101 = 6 := gSg.typ g3326 sh3287.1 lp3285c5 rfl
              have t3335 : ty3327 c133 = 7 := gSg.typ g3326 sh3287.1 lp3285c6 rfl
              have t3336 : ty3327 c168 = 8 := gSg.typ g3326 sh3287.1 lp3285c7 rfl
              have t3337 : ty3327 c206 = 9 := gSg.typ g3326 sh3287.1 lp3285c8 rfl
              have t3338 : ty3327 c247 = 10 := gSg.typ g3326 sh3287.1 lp3285c9 rfl
              have t3339 : ty3327 c291 = 11 := gSg.typ g3326 sh3287.1 lp3285c10 rfl
              have t3340 : ty3327 c338 = 12 := gSg.typ g3326 sh3287.1 lp3285c11 rfl
              have t3341 : ty3327 c388 = 13 := gSg.typ g3326 sh3287.1 lp3285c12 rfl
              have t3342 : ty3327 c441 = 14 := gSg.typ g3326 sh3287.1 lp3285c13 rfl
              have t3343 : ty3327 c497 = 15 := gSg.typ g3326 sh3287.1 lp3285c14 rfl
              have t3344 : ty3327 c556 = 16 := gSg.typ g3326 sh3287.1 lp3285c15 rfl
              have t3345 : ty3327 c618 = 17 := gSg.typ g3326 sh3287.1 lp3285c16 rfl
              have t3346 : ty3327 c683 = 18 := gSg.typ g3326 sh3287.1 lp3285c17 rfl
              have t3347 : ty3327 c751 = 19 := gSg.typ g3326 sh3287.1 lp3285c18 rfl
              have t3348 : ty3327 c822 = 20 := gSg.typ g3326 sh3287.1 lp3285c19 rfl
              have t3349 : ty3327 c896 = 21 := gSg.typ g3326 sh3287.1 lp3285c20 rfl
              have t3350 : ty3327 c973 = 22 := gSg.typ g3326 sh3287.1 lp3285c21 rfl
              have t3351 : ty3327 c1053 = 23 := gSg.typ g3326 sh3287.1 lp3285c22 rfl
              have t3352 : ty3327 c1136 = 24 := gSg.typ g3326 sh3287.1 lp3285c23 rfl
              have t3353 : ty3327 c1222 = 25 := gSg.typ g3326 sh3287.1 lp3285c24 rfl
              have t3354 : ty3327 c1311 = 26 := gSg.typ g3326 sh3287.1 lp3285c25 rfl
              have t3355 : ty3327 c1403 = 27 := gSg.typ g3326 sh3287.1 lp3285c26 rfl
              have t3356 : ty3327 c1498 = 28 := gSg.typ g3326 sh3287.1 lp3285c27 rfl
              have t3357 : ty3327 c1596 = 29 := gSg.typ g3326 sh3287.1 lp3285c28 rfl
              have t3358 : ty3327 c1697 = 30 := gSg.typ g3326 sh3287.1 lp3285c29 rfl
              have t3359 : ty3327 c1801 = 31 := gSg.typ g3326 sh3287.1 lp3285c30 rfl
              have t3360 : ty3327 c1908 = 32 := gSg.typ g3326 sh3287.1 lp3285c31 rfl
              have t3361 : ty3327 c2018 = 33 := gSg.typ g3326 sh3287.1 lp3285c32 rfl
              have t3362 : ty3327 c2131 = 34 := gSg.typ g3326 sh3287.1 lp3285c33 rfl
              have t3363 : ty3327 c2247 = 35 := gSg.typ g3326 sh3287.1 lp3285c34 rfl
              have t3364 : ty3327 c2366 = 36 := gSg.typ g3326 sh3287.1 lp3285c35 rfl
              have t3365 : ty3327 c2488 = 37 := gSg.typ g3326 sh3287.1 lp3285c36 rfl
              have t3366 : ty3327 c2613 = 38 := gSg.typ g3326 sh3287.1 lp3285c37 rfl
              have t3367 : ty3327 c2741 = 39 := gSg.typ g3326 sh3287.1 lp3285c38 rfl
              have t3368 : ty3327 c2872 = 40 := gSg.typ g3326 sh3287.1 lp3285c39 rfl
              have t3369 : ty3327 c3006 = 41 := gSg.typ g3326 sh3287.1 lp3285c40 rfl
              have t3370 : ty3327 c3143 = 42 := gSg.typ g3326 sh3287.1 lp3285c41 rfl
              have pr3371 := gOy.gr g3326 sh3287.1 rfl (by decide) (by decide) lp3285k42
              have sS3372 : gSs rT 1027 ty3327 [8999, 10999, 31999] h3287 h3287 := gSs.rf g3326.1
              have hts3373 : gTs ty3327 0 h3287 := gTs.anew (gRow.mk uq3328 t3355 (by decide) (fun _ => rfl)) (gRow.mk uq3328 t3356 (by decide) (fun _ => rfl)) (by have e9 := pr3371; rw [(by omega : i = 64)] at e9; exact e9)
              have G3374 : gSg [1, 2, 3, 4, 5, 6, 7, 8, 9, 10, 11, 12, 13, 14, 15, 16, 17, 18, 19, 20, 21, 22, 23, 24, 25, 26, 27, 28, 29, 30, 31, 32, 33, 34, 35, 36, 37, 38, 39, 40, 41, 42, 200] [x] [8999, 10999, 31999] ty h ty3327 h3287 := gSg.ss G3329 sS3372 (by decide)
              exact gz_end (I := .return_) (len := 1) rfl (Or.inl rfl) ⟨ty3327, G3374, 0, 0, 0, 0, 0, tg3326, rfl, df3297, (by omega), (by omega), df3318, (by omega), (by omega), df3315, (by omega), (by omega), df3316, (by omega), (by omega), df3317, (by omega), (by omega), (by omega), (by omega), (by omega), (by omega), (by omega), (by dsimp only; omega), (by dsimp only; omega), hts3373, uq3328⟩
            · refine gy_icF rfl (by decide) (by decide) (by omega) (by omega) hc3289 ?_
              have hzz := gzz (i := i) (u := u) (v := v) (by omega) (by omega) (by omega) (by omega)
              refine gz_s 1 (pc' := 372) (L' := [some (.ref x), some (.int (zi u)), some (.int (zi v)), some (.int (zi i)), none]) (S' := [.ref x]) rfl ?_
              refine gz_get rfl (by decide) rfl nx lp3285w0 lp3285w1 lp3285k8 ?_
              refine gy_s 6 (pc' := 382) (L' := [some (.ref x), some (.int (zi u)), some (.int (zi v)), some (.int (zi i)), none]) (S' := [.int (((zi 8) * (zi v)) + (zi u)), .int (zi i), .ref c247]) (L2 := [some (.ref x), some (.int (zi u)), some (.int (zi v)), some (.int (zi i)), none]) (S2 := [.int (zi ((8 * v) + u)), .int (zi i), .ref c247]) rfl (by simp only [zi_add, zi_sub, zi_mul, zi_neg, zi_and1, zi_and7, zi_and15, zi_and31, zi_and255]) (by simp only [zi_add, zi_sub, zi_mul, zi_neg, zi_and1, zi_and7, zi_and15, zi_and31, zi_and255]) ?_
              have hl3375 : 64 ≤ h3287.2.2.2.1 c247 ∧ h3287.2.2.2.1 c247 ≤ 64 := gJ.rowl (G := gGG) sh3287.1 lp3285c9 rfl
              refine gs_ast rfl (by decide) sh3287 lp3285c9 rfl rfl rfl (by decide) (fun _ => rfl) (by omega) (by omega) (fun _ => (by decide : (10999 : Nat) ∈ ([8999, 10999, 31999] : List Nat))) (by omega) (by omega) (fun h3376 sh3376 eh3376 fh3376 => ?_)
              have pr3377 := gOy.pt fh3376 lp3285c9 (by decide) lp3285k42
              have s3378 := (fh3376 x 2 (fun q => absurd (((lp3285c0).symm.trans (congrArg ty3288 q.1)).trans lp3285c9) (by decide))).trans lp3285k0
              have s3379 := (fh3376 x 4 (fun q => absurd (((lp3285c0).symm.trans (congrArg ty3288 q.1)).trans lp3285c9) (by decide))).trans lp3285k1
              have s3380 := (fh3376 x 9 (fun q => absurd (((lp3285c0).symm.trans (congrArg ty3288 q.1)).trans lp3285c9) (by decide))).trans lp3285k2
              have s3381 := (fh3376 x 10 (fun q => absurd (((lp3285c0).symm.trans (congrArg ty3288 q.1)).trans lp3285c9) (by decide))).trans lp3285k3
              have s3382 := (fh3376 x 11 (fun q => absurd (((lp3285c0).symm.trans (congrArg ty3288 q.1)).trans lp3285c9) (by decide))).trans lp3285k4
              have s3383 := (fh3376 x 12 (fun q => absurd (((lp3285c0).symm.trans (congrArg ty3288 q.1)).trans lp3285c9) (by decide))).trans lp3285k5
              have s3384 := (fh3376 x 13 (fun q => absurd (((lp3285c0).symm.trans (congrArg ty3288 q.1)).trans lp3285c9) (by decide))).trans lp3285k6
              have s3385 := (fh3376 x 14 (fun q => absurd (((lp3285c0).symm.trans (congrArg ty3288 q.1)).trans lp3285c9) (by decide))).trans lp3285k7
              have s3386 := (fh3376 x 15 (fun q => absurd (((lp3285c0).symm.trans (congrArg ty3288 q.1)).trans lp3285c9) (by decide))).trans lp3285k8
              have s3387 := (fh3376 x 25 (fun q => absurd (((lp3285c0).symm.trans (congrArg ty3288 q.1)).trans lp3285c9) (by decide))).trans lp3285k9
              have s3388 := (fh3376 x 26 (fun q => absurd (((lp3285c0).symm.trans (congrArg ty3288 q.1)).trans lp3285c9) (by decide))).trans lp3285k10
              have s3389 := (fh3376 x 27 (fun q => absurd (((lp3285c0).symm.trans (congrArg ty3288 q.1)).trans lp3285c9) (by decide))).trans lp3285k11
              have s3390 := (fh3376 x 28 (fun q => absurd (((lp3285c0).symm.trans (congrArg ty3288 q.1)).trans lp3285c9) (by decide))).trans lp3285k12
              have s3391 := (fh3376 x 29 (fun q => absurd (((lp3285c0).symm.trans (congrArg ty3288 q.1)).trans lp3285c9) (by decide))).trans lp3285k13
              have s3392 := (fh3376 x 30 (fun q => absurd (((lp3285c0).symm.trans (congrArg ty3288 q.1)).trans lp3285c9) (by decide))).trans lp3285k14
              have s3393 := (fh3376 x 31 (fun q => absurd (((lp3285c0).symm.trans (congrArg ty3288 q.1)).trans lp3285c9) (by decide))).trans lp3285k15
              have s3394 := (fh3376 x 32 (fun q => absurd (((lp3285c0).symm.trans (congrArg ty3288 q.1)).trans lp3285c9) (by decide))).trans lp3285k16
              have s3395 := (fh3376 x 33 (fun q => absurd (((lp3285c0).symm.trans (congrArg ty3288 q.1)).trans lp3285c9) (by decide))).trans lp3285k17
              have s3396 := (fh3376 x 34 (fun q => absurd (((lp3285c0).symm.trans (congrArg ty3288 q.1)).trans lp3285c9) (by decide))).trans lp3285k18
              have s3397 := (fh3376 x 35 (fun q => absurd (((lp3285c0).symm.trans (congrArg ty3288 q.1)).trans lp3285c9) (by decide))).trans lp3285k19
              have s3398 := (fh3376 x 36 (fun q => absurd (((lp3285c0).symm.trans (congrArg ty3288 q.1)).trans lp3285c9) (by decide))).trans lp3285k20
              have s3399 := (fh3376 x 37 (fun q => absurd (((lp3285c0).symm.trans (congrArg ty3288 q.1)).trans lp3285c9) (by decide))).trans lp3285k21
              have s3400 := (fh3376 x 38 (fun q => absurd (((lp3285c0).symm.trans (congrArg ty3288 q.1)).trans lp3285c9) (by decide))).trans lp3285k22
              have s3401 := (fh3376 x 40 (fun q => absurd (((lp3285c0).symm.trans (congrArg ty3288 q.1)).trans lp3285c9) (by decide))).trans lp3285k23
              have s3402 := (fh3376 x 49 (fun q => absurd (((lp3285c0).symm.trans (congrArg ty3288 q.1)).trans lp3285c9) (by decide))).trans lp3285k24
              have s3403 := (fh3376 x 54 (fun q => absurd (((lp3285c0).symm.trans (congrArg ty3288 q.1)).trans lp3285c9) (by decide))).trans lp3285k25
              have s3404 := (fh3376 x 55 (fun q => absurd (((lp3285c0).symm.trans (congrArg ty3288 q.1)).trans lp3285c9) (by decide))).trans lp3285k26
              have s3405 := (fh3376 x 56 (fun q => absurd (((lp3285c0).symm.trans (congrArg ty3288 q.1)).trans lp3285c9) (by decide))).trans lp3285k27
              have s3406 := (fh3376 x 57 (fun q => absurd (((lp3285c0).symm.trans (congrArg ty3288 q.1)).trans lp3285c9) (by decide))).trans lp3285k28
              have s3407 := (fh3376 x 58 (fun q => absurd (((lp3285c0).symm.trans (congrArg ty3288 q.1)).trans lp3285c9) (by decide))).trans lp3285k29
              have s3408 := (fh3376 x 60 (fun q => absurd (((lp3285c0).symm.trans (congrArg ty3288 q.1)).trans lp3285c9) (by decide))).trans lp3285k30
              have s3409 := (fh3376 x 63 (fun q => absurd (((lp3285c0).symm.trans (congrArg ty3288 q.1)).trans lp3285c9) (by decide))).trans lp3285k31
              have s3410 := (fh3376 x 65 (fun q => absurd (((lp3285c0).symm.trans (congrArg ty3288 q.1)).trans lp3285c9) (by decide))).trans lp3285k32
              have s3411 := (fh3376 x 66 (fun q => absurd (((lp3285c0).symm.trans (congrArg ty3288 q.1)).trans lp3285c9) (by decide))).trans lp3285k33
              have s3412 := (fh3376 x 68 (fun q => absurd (((lp3285c0).symm.trans (congrArg ty3288 q.1)).trans lp3285c9) (by decide))).trans lp3285k34
              have s3413 := (fh3376 x 69 (fun q => absurd (((lp3285c0).symm.trans (congrArg ty3288 q.1)).trans lp3285c9) (by decide))).trans lp3285k35
              have s3414 := (fh3376 x 70 (fun q => absurd (((lp3285c0).symm.trans (congrArg ty3288 q.1)).trans lp3285c9) (by decide))).trans lp3285k36
              have s3415 := (fh3376 x 71 (fun q => absurd (((lp3285c0).symm.trans (congrArg ty3288 q.1)).trans lp3285c9) (by decide))).trans lp3285k37
              have s3416 := (fh3376 x 72 (fun q => absurd (((lp3285c0).symm.trans (congrArg ty3288 q.1)).trans lp3285c9) (by decide))).trans lp3285k38
              have s3417 := (fh3376 x 73 (fun q => absurd (((lp3285c0).symm.trans (congrArg ty3288 q.1)).trans lp3285c9) (by decide))).trans lp3285k39
              have s3418 := (fh3376 x 76 (fun q => absurd (((lp3285c0).symm.trans (congrArg ty3288 q.1)).trans lp3285c9) (by decide))).trans lp3285k40
              have dd3419 : ∀ k, ¬ k ∈ ([76, 73, 72, 71, 70, 69, 68, 66, 65, 63, 60, 58, 57, 56, 55, 54, 49, 40, 38, 37, 36, 35, 34, 33, 32, 31, 30, 29, 28, 27, 26, 25, 15, 14, 13, 12, 11, 10, 9, 4, 2] : List Nat) → h3376.2.2.2.2 x k = defaultValue (gGG.2.1 12 k) := fun k hk => (fh3376 x k (fun q => absurd (((lp3285c0).symm.trans (congrArg ty3288 q.1)).trans lp3285c9) (by decide))).trans (lp3285w3 k hk)
              have pr3420 := gEl.set (i := i) (z := (8 * v) + u) lp3285u lp3285c9 (by decide) eh3376 (by omega) (by omega)
              refine gz_s 1 (pc' := 384) (L' := [some (.ref x), some (.int (zi u)), some (.int (zi v)), some (.int (zi i)), none]) (S' := [.ref x]) rfl ?_
              refine gz_get rfl (by decide) rfl nx (Nat.lt_of_lt_of_eq lp3285w0 sh3376.2.1.symm) ((congrFun sh3376.2.2.2.1 x).trans lp3285w1) s3407 ?_
              refine gz_s 2 (pc' := 389) (L' := [some (.ref x), some (.int (zi u)), some (.int (zi v)), some (.int (zi i)), none]) (S' := [.int (zi (-1)), .int (zi i), .ref c1801]) rfl ?_
              obtain ⟨f9, rf9, of9⟩ := pr3377
              have hl3421 : 64 ≤ h3376.2.2.2.1 c1801 ∧ h3376.2.2.2.1 c1801 ≤ 64 := gJ.rowl (G := gGG) sh3376.1 lp3285c30 rfl
              refine gs_ast rfl (by decide) sh3376 lp3285c30 rfl rfl rfl (by decide) (fun _ => rfl) (by omega) (by omega) (fun _ => (by decide : (31999 : Nat) ∈ ([8999, 10999, 31999] : List Nat))) (by omega) (by omega) (fun h3422 sh3422 eh3422 fh3422 => ?_)
              have pr3423 := gEl.pt fh3422 lp3285c30 (by decide) pr3420
              have pr3424 := gRow.put (i := i) (z := (-1)) lp3285u lp3285c30 (by decide) fh3422 eh3422 (by omega) (by omega) rf9
              have s3425 := (fh3422 x 2 (fun q => absurd (((lp3285c0).symm.trans (congrArg ty3288 q.1)).trans lp3285c30) (by decide))).trans s3378
              have s3426 := (fh3422 x 4 (fun q => absurd (((lp3285c0).symm.trans (congrArg ty3288 q.1)).trans lp3285c30) (by decide))).trans s3379
              have s3427 := (fh3422 x 9 (fun q => absurd (((lp3285c0).symm.trans (congrArg ty3288 q.1)).trans lp3285c30) (by decide))).trans s3380
              have s3428 := (fh3422 x 10 (fun q => absurd (((lp3285c0).symm.trans (congrArg ty3288 q.1)).trans lp3285c30) (by decide))).trans s3381
              have s3429 := (fh3422 x 11 (fun q => absurd (((lp3285c0).symm.trans (congrArg ty3288 q.1)).trans lp3285c30) (by decide))).trans s3382
              have s3430 := (fh3422 x 12 (fun q => absurd (((lp3285c0).symm.trans (congrArg ty3288 q.1)).trans lp3285c30) (by decide))).trans s3383
              have s3431 := (fh3422 x 13 (fun q => absurd (((lp3285c0).symm.trans (congrArg ty3288 q.1)).trans lp3285c30) (by decide))).trans s3384
              have s3432 := (fh3422 x 14 (fun q => absurd (((lp3285c0).symm.trans (congrArg ty3288 q.1)).trans lp3285c30) (by decide))).trans s3385
              have s3433 := (fh3422 x 15 (fun q => absurd (((lp3285c0).symm.trans (congrArg ty3288 q.1)).trans lp3285c30) (by decide))).trans s3386
              have s3434 := (fh3422 x 25 (fun q => absurd (((lp3285c0).symm.trans (congrArg ty3288 q.1)).trans lp3285c30) (by decide))).trans s3387
              have s3435 := (fh3422 x 26 (fun q => absurd (((lp3285c0).symm.trans (congrArg ty3288 q.1)).trans lp3285c30) (by decide))).trans s3388
              have s3436 := (fh3422 x 27 (fun q => absurd (((lp3285c0).symm.trans (congrArg ty3288 q.1)).trans lp3285c30) (by decide))).trans s3389
              have s3437 := (fh3422 x 28 (fun q => absurd (((lp3285c0).symm.trans (congrArg ty3288 q.1)).trans lp3285c30) (by decide))).trans s3390
              have s3438 := (fh3422 x 29 (fun q => absurd (((lp3285c0).symm.trans (congrArg ty3288 q.1)).trans lp3285c30) (by decide))).trans s3391
              have s3439 := (fh3422 x 30 (fun q => absurd (((lp3285c0).symm.trans (congrArg ty3288 q.1)).trans lp3285c30) (by decide))).trans s3392
              have s3440 := (fh3422 x 31 (fun q => absurd (((lp3285c0).symm.trans (congrArg ty3288 q.1)).trans lp3285c30) (by decide))).trans s3393
              have s3441 := (fh3422 x 32 (fun q => absurd (((lp3285c0).symm.trans (congrArg ty3288 q.1)).trans lp3285c30) (by decide))).trans s3394
              have s3442 := (fh3422 x 33 (fun q => absurd (((lp3285c0).symm.trans (congrArg ty3288 q.1)).trans lp3285c30) (by decide))).trans s3395
              have s3443 := (fh3422 x 34 (fun q => absurd (((lp3285c0).symm.trans (congrArg ty3288 q.1)).trans lp3285c30) (by decide))).trans s3396
              have s3444 := (fh3422 x 35 (fun q => absurd (((lp3285c0).symm.trans (congrArg ty3288 q.1)).trans lp3285c30) (by decide))).trans s3397
              have s3445 := (fh3422 x 36 (fun q => absurd (((lp3285c0).symm.trans (congrArg ty3288 q.1)).trans lp3285c30) (by decide))).trans s3398
              have s3446 := (fh3422 x 37 (fun q => absurd (((lp3285c0).symm.trans (congrArg ty3288 q.1)).trans lp3285c30) (by decide))).trans s3399
              have s3447 := (fh3422 x 38 (fun q => absurd (((lp3285c0).symm.trans (congrArg ty3288 q.1)).trans lp3285c30) (by decide))).trans s3400
              have s3448 := (fh3422 x 40 (fun q => absurd (((lp3285c0).symm.trans (congrArg ty3288 q.1)).trans lp3285c30) (by decide))).trans s3401
              have s3449 := (fh3422 x 49 (fun q => absurd (((lp3285c0).symm.trans (congrArg ty3288 q.1)).trans lp3285c30) (by decide))).trans s3402
              have s3450 := (fh3422 x 54 (fun q => absurd (((lp3285c0).symm.trans (congrArg ty3288 q.1)).trans lp3285c30) (by decide))).trans s3403
              have s3451 := (fh3422 x 55 (fun q => absurd (((lp3285c0).symm.trans (congrArg ty3288 q.1)).trans lp3285c30) (by decide))).trans s3404
              have s3452 := (fh3422 x 56 (fun q => absurd (((lp3285c0).symm.trans (congrArg ty3288 q.1)).trans lp3285c30) (by decide))).trans s3405
              have s3453 := (fh3422 x 57 (fun q => absurd (((lp3285c0).symm.trans (congrArg ty3288 q.1)).trans lp3285c30) (by decide))).trans s3406
              have s3454 := (fh3422 x 58 (fun q => absurd (((lp3285c0).symm.trans (congrArg ty3288 q.1)).trans lp3285c30) (by decide))).trans s3407
              have s3455 := (fh3422 x 60 (fun q => absurd (((lp3285c0).symm.trans (congrArg ty3288 q.1)).trans lp3285c30) (by decide))).trans s3408
              have s3456 := (fh3422 x 63 (fun q => absurd (((lp3285c0).symm.trans (congrArg ty3288 q.1)).trans lp3285c30) (by decide))).trans s3409
              have s3457 := (fh3422 x 65 (fun q => absurd (((lp3285c0).symm.trans (congrArg ty3288 q.1)).trans lp3285c30) (by decide))).trans s3410
              have s3458 := (fh3422 x 66 (fun q => absurd (((lp3285c0).symm.trans (congrArg ty3288 q.1)).trans lp3285c30) (by decide))).trans s3411
              have s3459 := (fh3422 x 68 (fun q => absurd (((lp3285c0).symm.trans (congrArg ty3288 q.1)).trans lp3285c30) (by decide))).trans s3412
              have s3460 := (fh3422 x 69 (fun q => absurd (((lp3285c0).symm.trans (congrArg ty3288 q.1)).trans lp3285c30) (by decide))).trans s3413
              have s3461 := (fh3422 x 70 (fun q => absurd (((lp3285c0).symm.trans (congrArg ty3288 q.1)).trans lp3285c30) (by decide))).trans s3414
              have s3462 := (fh3422 x 71 (fun q => absurd (((lp3285c0).symm.trans (congrArg ty3288 q.1)).trans lp3285c30) (by decide))).trans s3415
              have s3463 := (fh3422 x 72 (fun q => absurd (((lp3285c0).symm.trans (congrArg ty3288 q.1)).trans lp3285c30) (by decide))).trans s3416
              have s3464 := (fh3422 x 73 (fun q => absurd (((lp3285c0).symm.trans (congrArg ty3288 q.1)).trans lp3285c30) (by decide))).trans s3417
              have s3465 := (fh3422 x 76 (fun q => absurd (((lp3285c0).symm.trans (congrArg ty3288 q.1)).trans lp3285c30) (by decide))).trans s3418
              have dd3466 : ∀ k, ¬ k ∈ ([76, 73, 72, 71, 70, 69, 68, 66, 65, 63, 60, 58, 57, 56, 55, 54, 49, 40, 38, 37, 36, 35, 34, 33, 32, 31, 30, 29, 28, 27, 26, 25, 15, 14, 13, 12, 11, 10, 9, 4, 2] : List Nat) → h3422.2.2.2.2 x k = defaultValue (gGG.2.1 12 k) := fun k hk => (fh3422 x k (fun q => absurd (((lp3285c0).symm.trans (congrArg ty3288 q.1)).trans lp3285c30) (by decide))).trans (dd3419 k hk)
              have pr3467 := gEl.set (i := i) (z := (-1)) lp3285u lp3285c30 (by decide) eh3422 (by omega) (by omega)
              have hoy3468 : gOy ty3288 31 (-1) (i + 1) h3422 := gOy.step (by omega) pr3424 of9
              refine gy_s 4 (pc' := 394) (L' := [some (.ref x), some (.int (zi u)), some (.int (zi v)), some (.int (zi i)), none]) (S' := [.int (zi 2), .int ((zi u) + (zi v))]) (L2 := [some (.ref x), some (.int (zi u)), some (.int (zi v)), some (.int (zi i)), none]) (S2 := [.int (zi 2), .int (zi (u + v))]) rfl (by simp only [zi_add, zi_sub, zi_mul, zi_neg, zi_and1, zi_and7, zi_and15, zi_and31, zi_and255]) (by simp only [zi_add, zi_sub, zi_mul, zi_neg, zi_and1, zi_and7, zi_and15, zi_and31, zi_and255]) ?_
              refine gy_rem rfl (by decide) (by omega) (by omega) ?_
              have jn3469 : ∀ (jn3469v0 : Int), ((0 ≤ jn3469v0) ∧ (jn3469v0 ≤ 1) ∧ (jn3469v0 = 1 ↔ (u + v) % 2 = 0)) → gz gPP gGG gcn (d + 1) gt130 403 [some (.ref x), some (.int (zi u)), some (.int (zi v)), some (.int (zi i)), none] [.int (zi jn3469v0)] h3422 (fun q _ => ∃ ty9 : Nat → Nat, gSg [1, 2, 3, 4, 5, 6, 7, 8, 9, 10, 11, 12, 13, 14, 15, 16, 17, 18, 19, 20, 21, 22, 23, 24, 25, 26, 27, 28, 29, 30, 31, 32, 33, 34, 35, 36, 37, 38, 39, 40, 41, 42, 200] [x] [8999, 10999, 31999] ty h ty9 q.2.2 ∧ ∃ ip n1 cw ch iv1 : Int, ty9 x = 1 ∧ gfin gt130 q.1 q.2.1 = some none ∧ q.2.2.2.2.2.2 x 16 = .int (zi ip) ∧ 0 ≤ ip ∧ ip ≤ 1 ∧ q.2.2.2.2.2.2 x 53 = .int (zi n1) ∧ 0 ≤ n1 ∧ n1 ≤ 10 ∧ q.2.2.2.2.2.2 x 50 = .int (zi cw) ∧ 0 ≤ cw ∧ cw ≤ 32 ∧ q.2.2.2.2.2.2 x 51 = .int (zi ch) ∧ 0 ≤ ch ∧ ch ≤ 32 ∧ q.2.2.2.2.2.2 x 52 = .int (zi iv1) ∧ 0 ≤ iv1 ∧ iv1 ≤ 100 ∧ (ip = 0) ∧ (n1 = 0) ∧ (cw = 0) ∧ (ch = 0) ∧ (iv1 = 0) ∧ ((q.2.2.1 : Int) = h.1 + 41) ∧ ((q.2.2.2.1 : Int) = h.2.1 + 88652) ∧ (gTs ty9 0 q.2.2) ∧ gUq ty9) := by
                intro jn3469v0 jn3469d
                refine gz_s 2 (pc' := 407) (L' := [some (.ref x), some (.int (zi u)), some (.int (zi v)), some (.int (zi i)), some (.int (zi jn3469v0))]) (S' := [.int (zi jn3469v0)]) rfl ?_
                by_cases hc3470 : (jn3469v0 : Int) = 0
                · refine gy_ifT (pc' := 441) rfl (by decide) (by decide) (by omega) hc3470 ?_
                  refine gz_s 2 (pc' := 444) (L' := [some (.ref x), some (.int (zi u)), some (.int (zi v)), some (.int (zi i)), some (.int (zi jn3469v0))]) (S' := [.int (zi 7), .int (zi v)]) rfl ?_
                  by_cases hc3471 : ¬ (v : Int) = 7
                  · refine gy_icT (pc' := 453) rfl (by decide) (by decide) (by omega) (by omega) hc3471 ?_
                    refine gz_s 1 (pc' := 454) (L' := [some (.ref x), some (.int (zi u)), some (.int (zi v)), some (.int (zi i)), some (.int (zi jn3469v0))]) (S' := [.int (zi u)]) rfl ?_
                    by_cases hc3472 : ¬ (u : Int) = 0
                    · refine gy_ifT (pc' := 463) rfl (by decide) (by decide) (by omega) hc3472 ?_
                      refine gy_s 4 (pc' := 365) (L' := [some (.ref x), some (.int ((zi u) + zi (-1))), some (.int ((zi v) + zi 1)), some (.int ((zi i) + zi 1)), some (.int (zi jn3469v0))]) (S' := []) (L2 := [some (.ref x), some (.int (zi (u + (-1)))), some (.int (zi (v + 1))), some (.int (zi (i + 1))), some (.int (zi jn3469v0))]) (S2 := []) rfl (by simp only [zi_add, zi_sub, zi_mul, zi_neg, zi_and1, zi_and7, zi_and15, zi_and31, zi_and255]) (by simp only [zi_add, zi_sub, zi_mul, zi_neg, zi_and1, zi_and7, zi_and15, zi_and31, zi_and255]) ?_
                      have k3473 := sh3422.2.1
                      have k3473b := sh3422.2.2.1
                      have G3474 : gSg [1, 2, 3, 4, 5, 6, 7, 8, 9, 10, 11, 12, 13, 14, 15, 16, 17, 18, 19, 20, 21, 22, 23, 24, 25, 26, 27, 28, 29, 30, 31, 32, 33, 34, 35, 36, 37, 38, 39, 40, 41, 42, 200] [x] [8999, 10999, 31999] ty h ty3288 h3422 := gSg.ss lp3285G sh3422 (by decide)
                      exact gz_wk (ihlp3285 ty3288 h3422 (u + (-1)) (v + 1) (i + 1) (by omega) G3474 lp3285u lp3285c0 lp3285c1 lp3285c2 lp3285c3 lp3285c4 lp3285c5 lp3285c6 lp3285c7 lp3285c8 lp3285c9 lp3285c10 lp3285c11 lp3285c12 lp3285c13 lp3285c14 lp3285c15 lp3285c16 lp3285c17 lp3285c18 lp3285c19 lp3285c20 lp3285c21 lp3285c22 lp3285c23 lp3285c24 lp3285c25 lp3285c26 lp3285c27 lp3285c28 lp3285c29 lp3285c30 lp3285c31 lp3285c32 lp3285c33 lp3285c34 lp3285c35 lp3285c36 lp3285c37 lp3285c38 lp3285c39 lp3285c40 lp3285c41 (by omega) (by omega) (by omega) (by omega) (by omega) s3425 s3426 s3427 s3428 s3429 s3430 s3431 s3432 s3433 s3434 s3435 s3436 s3437 s3438 s3439 s3440 s3441 s3442 s3443 s3444 s3445 s3446 s3447 s3448 s3449 s3450 s3451 s3452 s3453 s3454 s3455 s3456 s3457 s3458 s3459 s3460 s3461 s3462 s3463 s3464 s3465 lp3285k41 hoy3468 (Nat.lt_of_lt_of_eq lp3285w0 sh3422.2.1.symm) ((congrFun sh3422.2.2.2.1 x).trans lp3285w1) ((congrFun sh3422.2.2.2.2.1 x).trans lp3285w2) dd3466) (gLw.s (gLw.s (gLw.s (gLw.s (gLw.n gLw.z)))))
                    · refine gy_ifF rfl (by decide) (by decide) (by omega) hc3472 ?_
                      refine gy_s 4 (pc' := 365) (L' := [some (.ref x), some (.int (zi u)), some (.int ((zi v) + zi 1)), some (.int ((zi i) + zi 1)), some (.int (zi jn3469v0))]) (S' := []) (L2 := [some (.ref x), some (.int (zi u)), some (.int (zi (v + 1))), some (.int (zi (i + 1))), some (.int (zi jn3469v0))]) (S2 := []) rfl (by simp only [zi_add, zi_sub, zi_mul, zi_neg, zi_and1, zi_and7, zi_and15, zi_and31, zi_and255]) (by simp only [zi_add, zi_sub, zi_mul, zi_neg, zi_and1, zi_and7, zi_and15, zi_and31, zi_and255]) ?_
                      have k3475 := sh3422.2.1
                      have k3475b := sh3422.2.2.1
                      have G3476 : gSg [1, 2, 3, 4, 5, 6, 7, 8, 9, 10, 11, 12, 13, 14, 15, 16, 17, 18, 19, 20, 21, 22, 23, 24, 25, 26, 27, 28, 29, 30, 31, 32, 33, 34, 35, 36, 37, 38, 39, 40, 41, 42, 200] [x] [8999, 10999, 31999] ty h ty3288 h3422 := gSg.ss lp3285G sh3422 (by decide)
                      exact gz_wk (ihlp3285 ty3288 h3422 u (v + 1) (i + 1) (by omega) G3476 lp3285u lp3285c0 lp3285c1 lp3285c2 lp3285c3 lp3285c4 lp3285c5 lp3285c6 lp3285c7 lp3285c8 lp3285c9 lp3285c10 lp3285c11 lp3285c12 lp3285c13 lp3285c14 lp3285c15 lp3285c16 lp3285c17 lp3285c18 lp3285c19 lp3285c20 lp3285c21 lp3285c22 lp3285c23 lp3285c24 lp3285c25 lp3285c26 lp3285c27 lp3285c28 lp3285c29 lp3285c30 lp3285c31 lp3285c32 lp3285c33 lp3285c34 lp3285c35 lp3285c36 lp3285c37 lp3285c38 lp3285c39 lp3285c40 lp3285c41 (by omega) (by omega) (by omega) (by omega) (by omega) s3425 s3426 s3427 s3428 s3429 s3430 s3431 s3432 s3433 s3434 s3435 s3436 s3437 s3438 s3439 s3440 s3441 s3442 s3443 s3444 s3445 s3446 s3447 s3448 s3449 s3450 s3451 s3452 s3453 s3454 s3455 s3456 s3457 s3458 s3459 s3460 s3461 s3462 s3463 s3464 s3465 lp3285k41 hoy3468 (Nat.lt_of_lt_of_eq lp3285w0 sh3422.2.1.symm) ((congrFun sh3422.2.2.2.1 x).trans lp3285w1) ((congrFun sh3422.2.2.2.2.1 x).trans lp3285w2) dd3466) (gLw.s (gLw.s (gLw.s (gLw.s (gLw.n gLw.z)))))
                  · refine gy_icF rfl (by decide) (by decide) (by omega) (by omega) hc3471 ?_
                    refine gy_s 4 (pc' := 365) (L' := [some (.ref x), some (.int ((zi u) + zi 1)), some (.int (zi v)), some (.int ((zi i) + zi 1)), some (.int (zi jn3469v0))]) (S' := []) (L2 := [some (.ref x), some (.int (zi (u + 1))), some (.int (zi v)), some (.int (zi (i + 1))), some (.int (zi jn3469v0))]) (S2 := []) rfl (by simp only [zi_add, zi_sub, zi_mul, zi_neg, zi_and1, zi_and7, zi_and15, zi_and31, zi_and255]) (by simp only [zi_add, zi_sub, zi_mul, zi_neg, zi_and1, zi_and7, zi_and15, zi_and31, zi_and255]) ?_
                    have k3477 := sh3422.2.1
                    have k3477b := sh3422.2.2.1
                    have G3478 : gSg [1, 2, 3, 4, 5, 6, 7, 8, 9, 10, 11, 12, 13, 14, 15, 16, 17, 18, 19, 20, 21, 22, 23, 24, 25, 26, 27, 28, 29, 30, 31, 32, 33, 34, 35, 36, 37, 38, 39, 40, 41, 42, 200] [x] [8999, 10999, 31999] ty h ty3288 h3422 := gSg.ss lp3285G sh3422 (by decide)
                    exact gz_wk (ihlp3285 ty3288 h3422 (u + 1) v (i + 1) (by omega) G3478 lp3285u lp3285c0 lp3285c1 lp3285c2 lp3285c3 lp3285c4 lp3285c5 lp3285c6 lp3285c7 lp3285c8 lp3285c9 lp3285c10 lp3285c11 lp3285c12 lp3285c13 lp3285c14 lp3285c15 lp3285c16 lp3285c17 lp3285c18 lp3285c19 lp3285c20 lp3285c21 lp3285c22 lp3285c23 lp3285c24 lp3285c25 lp3285c26 lp3285c27 lp3285c28 lp3285c29 lp3285c30 lp3285c31 lp3285c32 lp3285c33 lp3285c34 lp3285c35 lp3285c36 lp3285c37 lp3285c38 lp3285c39 lp3285c40 lp3285c41 (by omega) (by omega) (by omega) (by omega) (by omega) s3425 s3426 s3427 s3428 s3429 s3430 s3431 s3432 s3433 s3434 s3435 s3436 s3437 s3438 s3439 s3440 s3441 s3442 s3443 s3444 s3445 s3446 s3447 s3448 s3449 s3450 s3451 s3452 s3453 s3454 s3455 s3456 s3457 s3458 s3459 s3460 s3461 s3462 s3463 s3464 s3465 lp3285k41 hoy3468 (Nat.lt_of_lt_of_eq lp3285w0 sh3422.2.1.symm) ((congrFun sh3422.2.2.2.1 x).trans lp3285w1) ((congrFun sh3422.2.2.2.2.1 x).trans lp3285w2) dd3466) (gLw.s (gLw.s (gLw.s (gLw.s (gLw.n gLw.z)))))
                · refine gy_ifF rfl (by decide) (by decide) (by omega) hc3470 ?_
                  refine gz_s 2 (pc' := 413) (L' := [some (.ref x), some (.int (zi u)), some (.int (zi v)), some (.int (zi i)), some (.int (zi jn3469v0))]) (S' := [.int (zi 7), .int (zi u)]) rfl ?_
                  by_cases hc3479 : ¬ (u : Int) = 7
                  · refine gy_icT (pc' := 422) rfl (by decide) (by decide) (by omega) (by omega) hc3479 ?_
                    refine gz_s 1 (pc' := 423) (L' := [some (.ref x), some (.int (zi u)), some (.int (zi v)), some (.int (zi i)), some (.int (zi jn3469v0))]) (S' := [.int (zi v)]) rfl ?_
                    by_cases hc3480 : ¬ (v : Int) = 0
                    · refine gy_ifT (pc' := 432) rfl (by decide) (by decide) (by omega) hc3480 ?_
                      refine gy_s 5 (pc' := 365) (L' := [some (.ref x), some (.int ((zi u) + zi 1)), some (.int ((zi v) + zi (-1))), some (.int ((zi i) + zi 1)), some (.int (zi jn3469v0))]) (S' := []) (L2 := [some (.ref x), some (.int (zi (u + 1))), some (.int (zi (v + (-1)))), some (.int (zi (i + 1))), some (.int (zi jn3469v0))]) (S2 := []) rfl (by simp only [zi_add, zi_sub, zi_mul, zi_neg, zi_and1, zi_and7, zi_and15, zi_and31, zi_and255]) (by simp only [zi_add, zi_sub, zi_mul, zi_neg, zi_and1, zi_and7, zi_and15, zi_and31, zi_and255]) ?_
                      have k3481 := sh3422.2.1
                      have k3481b := sh3422.2.2.1
                      have G3482 : gSg [1, 2, 3, 4, 5, 6, 7, 8, 9, 10, 11, 12, 13, 14, 15, 16, 17, 18, 19, 20, 21, 22, 23, 24, 25, 26, 27, 28, 29, 30, 31, 32, 33, 34, 35, 36, 37, 38, 39, 40, 41, 42, 200] [x] [8999, 10999, 31999] ty h ty3288 h3422 := gSg.ss lp3285G sh3422 (by decide)
                      exact gz_wk (ihlp3285 ty3288 h3422 (u + 1) (v + (-1)) (i + 1) (by omega) G3482 lp3285u lp3285c0 lp3285c1 lp3285c2 lp3285c3 lp3285c4 lp3285c5 lp3285c6 lp3285c7 lp3285c8 lp3285c9 lp3285c10 lp3285c11 lp3285c12 lp3285c13 lp3285c14 lp3285c15 lp3285c16 lp3285c17 lp3285c18 lp3285c19 lp3285c20 lp3285c21 lp3285c22 lp3285c23 lp3285c24 lp3285c25 lp3285c26 lp3285c27 lp3285c28 lp3285c29 lp3285c30 lp3285c31 lp3285c32 lp3285c33 lp3285c34 lp3285c35 lp3285c36 lp3285c37 lp3285c38 lp3285c39 lp3285c40 lp3285c41 (by omega) (by omega) (by omega) (by omega) (by omega) s3425 s3426 s3427 s3428 s3429 s3430 s3431 s3432 s3433 s3434 s3435 s3436 s3437 s3438 s3439 s3440 s3441 s3442 s3443 s3444 s3445 s3446 s3447 s3448 s3449 s3450 s3451 s3452 s3453 s3454 s3455 s3456 s3457 s3458 s3459 s3460 s3461 s3462 s3463 s3464 s3465 lp3285k41 hoy3468 (Nat.lt_of_lt_of_eq lp3285w0 sh3422.2.1.symm) ((congrFun sh3422.2.2.2.1 x).trans lp3285w1) ((congrFun sh3422.2.2.2.2.1 x).trans lp3285w2) dd3466) (gLw.s (gLw.s (gLw.s (gLw.s (gLw.n gLw.z)))))
                    · refine gy_ifF rfl (by decide) (by decide) (by omega) hc3480 ?_
                      refine gy_s 4 (pc' := 365) (L' := [some (.ref x), some (.int ((zi u) + zi 1)), some (.int (zi v)), some (.int ((zi i) + zi 1)), some (.int (zi jn3469v0))]) (S' := []) (L2 := [some (.ref x), some (.int (zi (u + 1))), some (.int (zi v)), some (.int (zi (i + 1))), some (.int (zi jn3469v0))]) (S2 := []) rfl (by simp only [zi_add, zi_sub, zi_mul, zi_neg, zi_and1, zi_and7, zi_and15, zi_and31, zi_and255]) (by simp only [zi_add, zi_sub, zi_mul, zi_neg, zi_and1, zi_and7, zi_and15, zi_and31, zi_and255]) ?_
                      have k3483 := sh3422.2.1
                      have k3483b := sh3422.2.2.1
                      have G3484 : gSg [1, 2, 3, 4, 5, 6, 7, 8, 9, 10, 11, 12, 13, 14, 15, 16, 17, 18, 19, 20, 21, 22, 23, 24, 25, 26, 27, 28, 29, 30, 31, 32, 33, 34, 35, 36, 37, 38, 39, 40, 41, 42, 200] [x] [8999, 10999, 31999] ty h ty3288 h3422 := gSg.ss lp3285G sh3422 (by decide)
                      exact gz_wk (ihlp3285 ty3288 h3422 (u + 1) v (i + 1) (by omega) G3484 lp3285u lp3285c0 lp3285c1 lp3285c2 lp3285c3 lp3285c4 lp3285c5 lp3285c6 lp3285c7 lp3285c8 lp3285c9 lp3285c10 lp3285c11 lp3285c12 lp3285c13 lp3285c14 lp3285c15 lp3285c16 lp3285c17 lp3285c18 lp3285c19 lp3285c20 lp3285c21 lp3285c22 lp3285c23 lp3285c24 lp3285c25 lp3285c26 lp3285c27 lp3285c28 lp3285c29 lp3285c30 lp3285c31 lp3285c32 lp3285c33 lp3285c34 lp3285c35 lp3285c36 lp3285c37 lp3285c38 lp3285c39 lp3285c40 lp3285c41 (by omega) (by omega) (by omega) (by omega) (by omega) s3425 s3426 s3427 s3428 s3429 s3430 s3431 s3432 s3433 s3434 s3435 s3436 s3437 s3438 s3439 s3440 s3441 s3442 s3443 s3444 s3445 s3446 s3447 s3448 s3449 s3450 s3451 s3452 s3453 s3454 s3455 s3456 s3457 s3458 s3459 s3460 s3461 s3462 s3463 s3464 s3465 lp3285k41 hoy3468 (Nat.lt_of_lt_of_eq lp3285w0 sh3422.2.1.symm) ((congrFun sh3422.2.2.2.1 x).trans lp3285w1) ((congrFun sh3422.2.2.2.2.1 x).trans lp3285w2) dd3466) (gLw.s (gLw.s (gLw.s (gLw.s (gLw.n gLw.z)))))
                  · refine gy_icF rfl (by decide) (by decide) (by omega) (by omega) hc3479 ?_
                    refine gy_s 4 (pc' := 365) (L' := [some (.ref x), some (.int (zi u)), some (.int ((zi v) + zi 1)), some (.int ((zi i) + zi 1)), some (.int (zi jn3469v0))]) (S' := []) (L2 := [some (.ref x), some (.int (zi u)), some (.int (zi (v + 1))), some (.int (zi (i + 1))), some (.int (zi jn3469v0))]) (S2 := []) rfl (by simp only [zi_add, zi_sub, zi_mul, zi_neg, zi_and1, zi_and7, zi_and15, zi_and31, zi_and255]) (by simp only [zi_add, zi_sub, zi_mul, zi_neg, zi_and1, zi_and7, zi_and15, zi_and31, zi_and255]) ?_
                    have k3485 := sh3422.2.1
                    have k3485b := sh3422.2.2.1
                    have G3486 : gSg [1, 2, 3, 4, 5, 6, 7, 8, 9, 10, 11, 12, 13, 14, 15, 16, 17, 18, 19, 20, 21, 22, 23, 24, 25, 26, 27, 28, 29, 30, 31, 32, 33, 34, 35, 36, 37, 38, 39, 40, 41, 42, 200] [x] [8999, 10999, 31999] ty h ty3288 h3422 := gSg.ss lp3285G sh3422 (by decide)
                    exact gz_wk (ihlp3285 ty3288 h3422 u (v + 1) (i + 1) (by omega) G3486 lp3285u lp3285c0 lp3285c1 lp3285c2 lp3285c3 lp3285c4 lp3285c5 lp3285c6 lp3285c7 lp3285c8 lp3285c9 lp3285c10 lp3285c11 lp3285c12 lp3285c13 lp3285c14 lp3285c15 lp3285c16 lp3285c17 lp3285c18 lp3285c19 lp3285c20 lp3285c21 lp3285c22 lp3285c23 lp3285c24 lp3285c25 lp3285c26 lp3285c27 lp3285c28 lp3285c29 lp3285c30 lp3285c31 lp3285c32 lp3285c33 lp3285c34 lp3285c35 lp3285c36 lp3285c37 lp3285c38 lp3285c39 lp3285c40 lp3285c41 (by omega) (by omega) (by omega) (by omega) (by omega) s3425 s3426 s3427 s3428 s3429 s3430 s3431 s3432 s3433 s3434 s3435 s3436 s3437 s3438 s3439 s3440 s3441 s3442 s3443 s3444 s3445 s3446 s3447 s3448 s3449 s3450 s3451 s3452 s3453 s3454 s3455 s3456 s3457 s3458 s3459 s3460 s3461 s3462 s3463 s3464 s3465 lp3285k41 hoy3468 (Nat.lt_of_lt_of_eq lp3285w0 sh3422.2.1.symm) ((congrFun sh3422.2.2.2.1 x).trans lp3285w1) ((congrFun sh3422.2.2.2.2.1 x).trans lp3285w2) dd3466) (gLw.s (gLw.s (gLw.s (gLw.s (gLw.n gLw.z)))))
              by_cases hc3487 : ¬ ((u + v) % 2 : Int) = 0
              · refine gy_ifT (pc' := 402) rfl (by decide) (by decide) (by omega) hc3487 ?_
                refine gz_s 1 (pc' := 403) (L' := [some (.ref x), some (.int (zi u)), some (.int (zi v)), some (.int (zi i)), none]) (S' := [.int (zi 0)]) rfl ?_
                exact jn3469 0 (by omega)
              · refine gy_ifF rfl (by decide) (by decide) (by omega) hc3487 ?_
                refine gz_s 2 (pc' := 403) (L' := [some (.ref x), some (.int (zi u)), some (.int (zi v)), some (.int (zi i)), none]) (S' := [.int (zi 1)]) rfl ?_
                exact jn3469 1 (by omega)
        have hz0 : gzu (0 : Int).toNat = 0 := rfl
        have hz1 : gzv (0 : Int).toNat = 0 := rfl
        have G3488 : gSg [1, 2, 3, 4, 5, 6, 7, 8, 9, 10, 11, 12, 13, 14, 15, 16, 17, 18, 19, 20, 21, 22, 23, 24, 25, 26, 27, 28, 29, 30, 31, 32, 33, 34, 35, 36, 37, 38, 39, 40, 41, 42, 200] [x] [8999, 10999, 31999] ty h ty3283 h3282 := gSg.ss lp3281G sh3282 (by decide)
        exact gz_wk (lp3285 _ ty3283 h3282 0 0 0 (Nat.lt_succ_self _) G3488 lp3281u lp3281c0 lp3281c1 lp3281c2 lp3281c3 lp3281c4 lp3281c5 lp3281c6 lp3281c7 lp3281c8 lp3281c9 lp3281c10 lp3281c11 lp3281c12 lp3281c13 lp3281c14 lp3281c15 lp3281c16 lp3281c17 lp3281c18 lp3281c19 lp3281c20 lp3281c21 lp3281c22 lp3281c23 lp3281c24 lp3281c25 lp3281c26 lp3281c27 lp3281c28 lp3281c29 lp3281c30 lp3281c31 lp3281c32 lp3281c33 lp3281c34 lp3281c35 lp3281c36 lp3281c37 lp3281c38 lp3281c39 lp3281c40 lp3281c41 (by omega) (by omega) (by omega) (by omega) (by omega) lp3281k0 lp3281k1 lp3281k2 lp3281k3 lp3281k4 lp3281k5 lp3281k6 lp3281k7 lp3281k8 lp3281k9 lp3281k10 lp3281k11 lp3281k12 lp3281k13 lp3281k14 lp3281k15 lp3281k16 lp3281k17 lp3281k18 lp3281k19 lp3281k20 lp3281k21 lp3281k22 lp3281k23 lp3281k24 lp3281k25 lp3281k26 lp3281k27 lp3281k28 lp3281k29 lp3281k30 lp3281k31 lp3281k32 lp3281k33 lp3281k34 lp3281k35 lp3281k36 lp3281k37 lp3281k38 lp3281k39 lp3281k40 lp3281k41 hoy3286 lp3281w0 lp3281w1 lp3281w2 lp3281w3) (gLw.s (gLw.s (gLw.s (gLw.s (gLw.n gLw.z)))))
      · refine gy_icF rfl (by decide) (by decide) (by omega) (by omega) hc3284 ?_
        refine gz_s 1 (pc' := 346) (L' := [some (.ref x), some (.int (zi k)), none, none, none]) (S' := [.ref x]) rfl ?_
        refine gz_get rfl (by decide) rfl nx lp3281w0 lp3281w1 lp3281k6 ?_
        refine gz_s 2 (pc' := 352) (L' := [some (.ref x), some (.int (zi k)), none, none, none]) (S' := [.int (zi 16), .int (zi k), .ref c168]) rfl ?_
        have hl3489 : 256 ≤ h3282.2.2.2.1 c168 ∧ h3282.2.2.2.1 c168 ≤ 256 := gJ.rowl (G := gGG) sh3282.1 lp3281c7 rfl
        refine gs_ast rfl (by decide) sh3282 lp3281c7 rfl rfl rfl (by decide) (fun _ => rfl) (by omega) (by omega) (fun _ => (by decide : (8999 : Nat) ∈ ([8999, 10999, 31999] : List Nat))) (by omega) (by omega) (fun h3490 sh3490 eh3490 fh3490 => ?_)
        have s3491 := (fh3490 x 2 (fun q => absurd (((lp3281c0).symm.trans (congrArg ty3283 q.1)).trans lp3281c7) (by decide))).trans lp3281k0
        have s3492 := (fh3490 x 4 (fun q => absurd (((lp3281c0).symm.trans (congrArg ty3283 q.1)).trans lp3281c7) (by decide))).trans lp3281k1
        have s3493 := (fh3490 x 9 (fun q => absurd (((lp3281c0).symm.trans (congrArg ty3283 q.1)).trans lp3281c7) (by decide))).trans lp3281k2
        have s3494 := (fh3490 x 10 (fun q => absurd (((lp3281c0).symm.trans (congrArg ty3283 q.1)).trans lp3281c7) (by decide))).trans lp3281k3
        have s3495 := (fh3490 x 11 (fun q => absurd (((lp3281c0).symm.trans (congrArg ty3283 q.1)).trans lp3281c7) (by decide))).trans lp3281k4
        have s3496 := (fh3490 x 12 (fun q => absurd (((lp3281c0).symm.trans (congrArg ty3283 q.1)).trans lp3281c7) (by decide))).trans lp3281k5
        have s3497 := (fh3490 x 13 (fun q => absurd (((lp3281c0).symm.trans (congrArg ty3283 q.1)).trans lp3281c7) (by decide))).trans lp3281k6
        have s3498 := (fh3490 x 14 (fun q => absurd (((lp3281c0).symm.trans (congrArg ty3283 q.1)).trans lp3281c7) (by decide))).trans lp3281k7
        have s3499 := (fh3490 x 15 (fun q => absurd (((lp3281c0).symm.trans (congrArg ty3283 q.1)).trans lp3281c7) (by decide))).trans lp3281k8
        have s3500 := (fh3490 x 25 (fun q => absurd (((lp3281c0).symm.trans (congrArg ty3283 q.1)).trans lp3281c7) (by decide))).trans lp3281k9
        have s3501 := (fh3490 x 26 (fun q => absurd (((lp3281c0).symm.trans (congrArg ty3283 q.1)).trans lp3281c7) (by decide))).trans lp3281k10
        have s3502 := (fh3490 x 27 (fun q => absurd (((lp3281c0).symm.trans (congrArg ty3283 q.1)).trans lp3281c7) (by decide))).trans lp3281k11
        have s3503 := (fh3490 x 28 (fun q => absurd (((lp3281c0).symm.trans (congrArg ty3283 q.1)).trans lp3281c7) (by decide))).trans lp3281k12
        have s3504 := (fh3490 x 29 (fun q => absurd (((lp3281c0).symm.trans (congrArg ty3283 q.1)).trans lp3281c7) (by decide))).trans lp3281k13
        have s3505 := (fh3490 x 30 (fun q => absurd (((lp3281c0).symm.trans (congrArg ty3283 q.1)).trans lp3281c7) (by decide))).trans lp3281k14
        have s3506 := (fh3490 x 31 (fun q => absurd (((lp3281c0).symm.trans (congrArg ty3283 q.1)).trans lp3281c7) (by decide))).trans lp3281k15
        have s3507 := (fh3490 x 32 (fun q => absurd (((lp3281c0).symm.trans (congrArg ty3283 q.1)).trans lp3281c7) (by decide))).trans lp3281k16
        have s3508 := (fh3490 x 33 (fun q => absurd (((lp3281c0).symm.trans (congrArg ty3283 q.1)).trans lp3281c7) (by decide))).trans lp3281k17
        have s3509 := (fh3490 x 34 (fun q => absurd (((lp3281c0).symm.trans (congrArg ty3283 q.1)).trans lp3281c7) (by decide))).trans lp3281k18
        have s3510 := (fh3490 x 35 (fun q => absurd (((lp3281c0).symm.trans (congrArg ty3283 q.1)).trans lp3281c7) (by decide))).trans lp3281k19
        have s3511 := (fh3490 x 36 (fun q => absurd (((lp3281c0).symm.trans (congrArg ty3283 q.1)).trans lp3281c7) (by decide))).trans lp3281k20
        have s3512 := (fh3490 x 37 (fun q => absurd (((lp3281c0).symm.trans (congrArg ty3283 q.1)).trans lp3281c7) (by decide))).trans lp3281k21
        have s3513 := (fh3490 x 38 (fun q => absurd (((lp3281c0).symm.trans (congrArg ty3283 q.1)).trans lp3281c7) (by decide))).trans lp3281k22
        have s3514 := (fh3490 x 40 (fun q => absurd (((lp3281c0).symm.trans (congrArg ty3283 q.1)).trans lp3281c7) (by decide))).trans lp3281k23
        have s3515 := (fh3490 x 49 (fun q => absurd (((lp3281c0).symm.trans (congrArg ty3283 q.1)).trans lp3281c7) (by decide))).trans lp3281k24
        have s3516 := (fh3490 x 54 (fun q => absurd (((lp3281c0).symm.trans (congrArg ty3283 q.1)).trans lp3281c7) (by decide))).trans lp3281k25
        have s3517 := (fh3490 x 55 (fun q => absurd (((lp3281c0).symm.trans (congrArg ty3283 q.1)).trans lp3281c7) (by decide))).trans lp3281k26
        have s3518 := (fh3490 x 56 (fun q => absurd (((lp3281c0).symm.trans (congrArg ty3283 q.1)).trans lp3281c7) (by decide))).trans lp3281k27
        have s3519 := (fh3490 x 57 (fun q => absurd (((lp3281c0).symm.trans (congrArg ty3283 q.1)).trans lp3281c7) (by decide))).trans lp3281k28
        have s3520 := (fh3490 x 58 (fun q => absurd (((lp3281c0).symm.trans (congrArg ty3283 q.1)).trans lp3281c7) (by decide))).trans lp3281k29
        have s3521 := (fh3490 x 60 (fun q => absurd (((lp3281c0).symm.trans (congrArg ty3283 q.1)).trans lp3281c7) (by decide))).trans lp3281k30
        have s3522 := (fh3490 x 63 (fun q => absurd (((lp3281c0).symm.trans (congrArg ty3283 q.1)).trans lp3281c7) (by decide))).trans lp3281k31
        have s3523 := (fh3490 x 65 (fun q => absurd (((lp3281c0).symm.trans (congrArg ty3283 q.1)).trans lp3281c7) (by decide))).trans lp3281k32
        have s3524 := (fh3490 x 66 (fun q => absurd (((lp3281c0).symm.trans (congrArg ty3283 q.1)).trans lp3281c7) (by decide))).trans lp3281k33
        have s3525 := (fh3490 x 68 (fun q => absurd (((lp3281c0).symm.trans (congrArg ty3283 q.1)).trans lp3281c7) (by decide))).trans lp3281k34
        have s3526 := (fh3490 x 69 (fun q => absurd (((lp3281c0).symm.trans (congrArg ty3283 q.1)).trans lp3281c7) (by decide))).trans lp3281k35
        have s3527 := (fh3490 x 70 (fun q => absurd (((lp3281c0).symm.trans (congrArg ty3283 q.1)).trans lp3281c7) (by decide))).trans lp3281k36
        have s3528 := (fh3490 x 71 (fun q => absurd (((lp3281c0).symm.trans (congrArg ty3283 q.1)).trans lp3281c7) (by decide))).trans lp3281k37
        have s3529 := (fh3490 x 72 (fun q => absurd (((lp3281c0).symm.trans (congrArg ty3283 q.1)).trans lp3281c7) (by decide))).trans lp3281k38
        have s3530 := (fh3490 x 73 (fun q => absurd (((lp3281c0).symm.trans (congrArg ty3283 q.1)).trans lp3281c7) (by decide))).trans lp3281k39
        have s3531 := (fh3490 x 76 (fun q => absurd (((lp3281c0).symm.trans (congrArg ty3283 q.1)).trans lp3281c7) (by decide))).trans lp3281k40
        have dd3532 : ∀ k, ¬ k ∈ ([76, 73, 72, 71, 70, 69, 68, 66, 65, 63, 60, 58, 57, 56, 55, 54, 49, 40, 38, 37, 36, 35, 34, 33, 32, 31, 30, 29, 28, 27, 26, 25, 15, 14, 13, 12, 11, 10, 9, 4, 2] : List Nat) → h3490.2.2.2.2 x k = defaultValue (gGG.2.1 12 k) := fun k hk => (fh3490 x k (fun q => absurd (((lp3281c0).symm.trans (congrArg ty3283 q.1)).trans lp3281c7) (by decide))).trans (lp3281w3 k hk)
        have pr3533 := gEl.set (i := k) (z := 16) lp3281u lp3281c7 (by decide) eh3490 (by omega) (by omega)
        refine gy_s 2 (pc' := 338) (L' := [some (.ref x), some (.int ((zi k) + zi 1)), none, none, none]) (S' := []) (L2 := [some (.ref x), some (.int (zi (k + 1))), none, none, none]) (S2 := []) rfl (by simp only [zi_add, zi_sub, zi_mul, zi_neg, zi_and1, zi_and7, zi_and15, zi_and31, zi_and255]) (by simp only [zi_add, zi_sub, zi_mul, zi_neg, zi_and1, zi_and7, zi_and15, zi_and31, zi_and255]) ?_
        have k3534 := sh3490.2.1
        have k3534b := sh3490.2.2.1
        have G3535 : gSg [1, 2, 3, 4, 5, 6, 7, 8, 9, 10, 11, 12, 13, 14, 15, 16, 17, 18, 19, 20, 21, 22, 23, 24, 25, 26, 27, 28, 29, 30, 31, 32, 33, 34, 35, 36, 37, 38, 39, 40, 41, 42, 200] [x] [8999, 10999, 31999] ty h ty3283 h3490 := gSg.ss lp3281G sh3490 (by decide)
        exact gz_wk (ihlp3281 ty3283 h3490 (k + 1) (by omega) G3535 lp3281u lp3281c0 lp3281c1 lp3281c2 lp3281c3 lp3281c4 lp3281c5 lp3281c6 lp3281c7 lp3281c8 lp3281c9 lp3281c10 lp3281c11 lp3281c12 lp3281c13 lp3281c14 lp3281c15 lp3281c16 lp3281c17 lp3281c18 lp3281c19 lp3281c20 lp3281c21 lp3281c22 lp3281c23 lp3281c24 lp3281c25 lp3281c26 lp3281c27 lp3281c28 lp3281c29 lp3281c30 lp3281c31 lp3281c32 lp3281c33 lp3281c34 lp3281c35 lp3281c36 lp3281c37 lp3281c38 lp3281c39 lp3281c40 lp3281c41 (by omega) s3491 s3492 s3493 s3494 s3495 s3496 s3497 s3498 s3499 s3500 s3501 s3502 s3503 s3504 s3505 s3506 s3507 s3508 s3509 s3510 s3511 s3512 s3513 s3514 s3515 s3516 s3517 s3518 s3519 s3520 s3521 s3522 s3523 s3524 s3525 s3526 s3527 s3528 s3529 s3530 s3531 lp3281k41 (Nat.lt_of_lt_of_eq lp3281w0 sh3490.2.1.symm) ((congrFun sh3490.2.2.2.1 x).trans lp3281w1) ((congrFun sh3490.2.2.2.2.1 x).trans lp3281w2) dd3532) (gLw.s (gLw.s (gLw.n (gLw.n (gLw.n gLw.z)))))
  have G3536 : gSg [1, 2, 3, 4, 5, 6, 7, 8, 9, 10, 11, 12, 13, 14, 15, 16, 17, 18, 19, 20, 21, 22, 23, 24, 25, 26, 27, 28, 29, 30, 31, 32, 33, 34, 35, 36, 37, 38, 39, 40, 41, 42, 200] [x] [8999, 10999, 31999] ty h ty3141 h3234 := gSg.ss G3236 sS3237 (by decide)
  exact gz_wk (lp3281 _ ty3141 h3234 0 (Nat.lt_succ_self _) G3536 uq3145 t3151 t3152 t3153 t3154 t3155 t3156 t3157 t3158 t3159 t3160 t3161 t3162 t3163 t3164 t3165 t3166 t3167 t3168 t3169 t3170 t3171 t3172 t3173 t3174 t3175 t3176 t3177 t3178 t3179 t3180 t3181 t3182 t3183 t3184 t3185 t3186 t3187 t3188 t3189 t3190 t3191 tc3143 (by omega) s3241 s3242 s3243 s3244 s3245 s3246 s3247 s3248 s3249 s3250 s3251 s3252 s3253 s3254 s3255 s3256 s3257 s3258 s3259 s3260 s3261 s3262 s3263 s3264 s3265 s3266 s3267 s3268 s3269 s3270 s3271 s3272 s3273 s3274 s3275 s3276 s3277 s3278 s3279 s3280 eh3234 pr3232 rf3238 kh3234 rf3239 dd3240) (gLw.s (gLw.s (gLw.n (gLw.n (gLw.n gLw.z)))))
