/-! ===== methods of the landed text (by program) ===== -/
set_option maxRecDepth 20000 in
set_option maxHeartbeats 4000000 in
theorem ct_Reader (d : Nat) {ty : Nat → Nat} {h : gH} (hJ : gJ rT 1027 ty h) (x : Nat) (tx : ty x = 200) (nx : 1027 ≤ x) (lx : x < h.1) (kx : h.2.2.1 x = some (.inr 6)) (zx : h.2.2.2.1 x = 0) (dx : ∀ k, h.2.2.2.2 x k = defaultValue (gGG.2.1 6 k)) (s : Nat) (ts : ty s = 51) (p : Nat) (tp : ty p = 54) (no0 : gNo [65, 66, 67, 68, 69, 70] ty) (uq : gUq ty) : gz gPP gGG gcn (d + 3) gt8 0 (gent [.ref x, .ref s, .ref p] 3) [] h (fun q _ => ∃ ty9 : Nat → Nat, gSg [65, 66, 67, 68, 69, 70, 101, 102, 103, 200] [x] [] ty h ty9 q.2.2 ∧ ty9 x = 65 ∧ gfin gt8 q.1 q.2.1 = some none ∧ ((q.2.2.1 : Int) = h.1 + 29) ∧ ((q.2.2.2.1 : Int) = h.2.1 + 2251) ∧ gUq ty9) := by
  have hS : gSs rT 1027 ty [] h h := gSs.rf hJ
  have G0 : gSg [65, 66, 67, 68, 69, 70, 101, 102, 103, 200] [x] [] ty h ty h := gSg.rf hJ (fun x hx => by rw [List.mem_singleton.mp hx, tx]; rfl)
  refine gz_s 1 (pc' := 1) (L' := [some (.ref x), some (.ref s), some (.ref p)]) (S' := [.ref x]) rfl ?_
  refine gz_obj rfl (by decide) (by omega) rfl (by decide) ?_
  refine gz_s 2 (pc' := 6) (L' := [some (.ref x), some (.ref s), some (.ref p)]) (S' := [.ref s, .ref x]) rfl ?_
  refine gs_rput rfl (by decide) rfl hS.1 tx nx lx kx rfl (Or.inr rfl) (fun h1 g2 nh1 mh1 kh1 zh1 eh1 fh1 => ?_)
  have G3 : gSg [65, 66, 67, 68, 69, 70, 101, 102, 103, 200] [x] [] ty h ty h1 := gSg.tr (gSg.ss G0 hS (by decide)) g2 (by decide) (by decide) (fun x hx => Or.inr hx)
  have sS4 : gSs rT 1027 ty [] h1 h1 := gSs.rf g2.1
  have rf5 := Nat.lt_of_lt_of_eq lx nh1.symm
  have rf6 := zh1.trans zx
  have dd7 : ∀ k, ¬ k ∈ ([0] : List Nat) → h1.2.2.2.2 x k = defaultValue (gGG.2.1 6 k) := raw_dp fh1 (fun k _ => dx k)
  refine gz_s 2 (pc' := 11) (L' := [some (.ref x), some (.ref s), some (.ref p)]) (S' := [.ref p, .ref x]) rfl ?_
  refine gs_rput rfl (by decide) rfl sS4.1 tx nx rf5 kh1 rfl (Or.inr rfl) (fun h8 g9 nh8 mh8 kh8 zh8 eh8 fh8 => ?_)
  have G10 : gSg [65, 66, 67, 68, 69, 70, 101, 102, 103, 200] [x] [] ty h ty h8 := gSg.tr (gSg.ss G3 sS4 (by decide)) g9 (by decide) (by decide) (fun x hx => Or.inr hx)
  have sS11 : gSs rT 1027 ty [] h8 h8 := gSs.rf g9.1
  have rf12 := Nat.lt_of_lt_of_eq rf5 nh8.symm
  have rf13 := zh8.trans rf6
  have dd14 : ∀ k, ¬ k ∈ ([1, 0] : List Nat) → h8.2.2.2.2 x k = defaultValue (gGG.2.1 6 k) := raw_dp fh8 dd7
  have s15 := (fh8 0 (by decide)).trans eh1
  refine gz_s 1 (pc' := 15) (L' := [some (.ref x), some (.ref s), some (.ref p)]) (S' := [.ref x]) rfl ?_
  refine gs_newo rfl (by decide) rfl sS11.1 (Nat.le_of_lt (Nat.lt_of_le_of_lt (gJ.cell sS11.1 ts rfl).1 (gJ.cell sS11.1 ts rfl).2.1)) (fun ty16 h17 c18 g19 tc18 kc18 zc18 nc18 mc18 ec18 dc18 => ?_)
  have mfc18 : h17.2.1 = h8.2.1 + 15 := mc18
  have gac18 : h.1 ≤ c18 := by have h8 := G10.2.1; have h9 := sS11.2.1; omega
  have nnc18 : 1027 ≤ c18 := by have h8 := (Nat.le_of_lt (Nat.lt_of_le_of_lt (gJ.cell sS11.1 ts rfl).1 (gJ.cell sS11.1 ts rfl).2.1)); omega
  have llc18 := Nat.lt_of_lt_of_eq (Nat.lt_succ_of_le (Nat.le_of_eq ec18)) nc18.symm
  have nex_c18 : x ≠ c18 := by have h8 := rf12; omega
  have G20 : gSg [65, 66, 67, 68, 69, 70, 101, 102, 103, 200] [x] [] ty h ty16 h17 := gSg.tr (gSg.ss G10 sS11 (by decide)) g19 (by decide) (by decide) (fun x hx => by cases hx)
  have rw21 := gSg.raw g19 rf12 (fun w => by cases w)
  have rf22 := (rw21.2.2.1.trans kh8)
  have rf23 := (rw21.2.2.2.trans rf13)
  have dd24 := gSg.rawd (ci := 6) (ps := [1, 0]) g19 rf12 (fun w => by cases w) tx (by decide) dd14
  have t25 : ty16 x = 200 := rw21.1.trans tx
  have t26 : ty16 s = 51 := gSg.typ g19 sS11.1 ts rfl
  have t27 : ty16 p = 54 := gSg.typ g19 sS11.1 tp rfl
  have s28 := gSg.rawat g19 rf12 (fun w => by cases w) tx (by decide) s15
  have s29 := gSg.rawat g19 rf12 (fun w => by cases w) tx (by decide) eh8
  have pr30 : gNo [65, 66, 67, 68, 69, 70] ty16 := gNo.gr g19 (by decide) (gNo.sub (by decide) no0)
  have uq31 := gSg.uq g19 uq (by decide)
  have sS32 : gSs rT 1027 ty16 [] h17 h17 := gSs.rf g19.1
  refine gz_s 3 (pc' := 21) (L' := [some (.ref x), some (.ref s), some (.ref p)]) (S' := [.ref p, .ref s, .ref c18, .ref c18, .ref x]) rfl ?_
  refine gz_call rfl (by decide) rfl (by decide) (by decide) (gcal_of rfl rfl rfl (Nat.le_of_ble_eq_true rfl) rfl) (ct_ScanReader _ sS32.1 c18 tc18 nnc18 llc18 kc18 zc18 dc18 s t26 p t27 (gNo.sub (by decide) pr30) uq31) (fun q33 _ wq33 => ?_)
  obtain ⟨pq33, oq33, hq33⟩ := q33
  obtain ⟨tyq33, xq33, trq33_0, gq33, uq33_0, uq33_1, uqq33⟩ := wq33
  dsimp only at uq33_0 uq33_1
  refine ⟨_, gq33, ?_⟩
  show gz gPP gGG gcn _ _ 24 [some (.ref x), some (.ref s), some (.ref p)] [.ref c18, .ref x] hq33 _
  have G34 : gSg [65, 66, 67, 68, 69, 70, 101, 102, 103, 200] [x] [] ty h tyq33 hq33 := gSg.tr (gSg.ss G20 sS32 (by decide)) xq33 (by decide) (by decide) (fun x hx => Or.inl (by rw [List.mem_singleton.mp hx]; exact gac18))
  have rw35 := gSg.raw xq33 rw21.2.1 (fun w => nex_c18 (List.mem_singleton.mp w))
  have rf36 := (rw35.2.2.1.trans rf22)
  have rf37 := (rw35.2.2.2.trans rf23)
  have dd38 := gSg.rawd (ci := 6) (ps := [1, 0]) xq33 rw21.2.1 (fun w => nex_c18 (List.mem_singleton.mp w)) t25 (by decide) dd24
  have t39 : tyq33 x = 200 := rw35.1.trans t25
  have t40 : tyq33 s = 51 := gSg.typ xq33 sS32.1 t26 rfl
  have t41 : tyq33 p = 54 := gSg.typ xq33 sS32.1 t27 rfl
  have s42 := gSg.rawat xq33 rw21.2.1 (fun w => nex_c18 (List.mem_singleton.mp w)) t25 (by decide) s28
  have s43 := gSg.rawat xq33 rw21.2.1 (fun w => nex_c18 (List.mem_singleton.mp w)) t25 (by decide) s29
  have pr44 : gNo [65] tyq33 := gNo.gr xq33 (by decide) (gNo.sub (by decide) pr30)
  have sS45 : gSs rT 1027 tyq33 [] hq33 hq33 := gSs.rf xq33.1
  refine gs_rput rfl (by decide) rfl sS45.1 t39 nx rw35.2.1 rf36 rfl (Or.inr rfl) (fun h46 g47 nh46 mh46 kh46 zh46 eh46 fh46 => ?_)
  have G48 : gSg [65, 66, 67, 68, 69, 70, 101, 102, 103, 200] [x] [] ty h tyq33 h46 := gSg.tr (gSg.ss G34 sS45 (by decide)) g47 (by decide) (by decide) (fun x hx => Or.inr hx)
  have sS49 : gSs rT 1027 tyq33 [] h46 h46 := gSs.rf g47.1
  have rf50 := Nat.lt_of_lt_of_eq rw35.2.1 nh46.symm
  have rf51 := zh46.trans rf37
  have dd52 : ∀ k, ¬ k ∈ ([2, 1, 0] : List Nat) → h46.2.2.2.2 x k = defaultValue (gGG.2.1 6 k) := raw_dp fh46 dd38
  have s53 := (fh46 0 (by decide)).trans s42
  have s54 := (fh46 1 (by decide)).trans s43
  obtain ⟨ty56, g55, tg55, ug55⟩ := gSg.adx 65 sS49.1 t39 nx rf50 rfl kh46 (by show (0 : Nat) ≤ _; have h9 := rf51; omega) (by show _ ≤ (0 : Nat); have h9 := rf51; omega) (fun ty9 w9 k hk => ad65 (by rw [s53]; exact ⟨s, rfl, w9 s _ t40 (by decide)⟩) (by rw [s54]; exact ⟨p, rfl, w9 p _ t41 (by decide)⟩) (by rw [eh46]; exact ⟨c18, rfl, w9 c18 _ trq33_0 (by decide)⟩) (by rw [(show h46.2.2.2.2 x 3 = .int (zi 0) from dd52 3 (by decide))]; exact ⟨0, rfl, by show (0 : Int) ≤ _; omega, by show _ ≤ (4100 : Int); omega⟩) k)
  have uq57 := ug55 uqq33 (Or.inr pr44)
  have G58 : gSg [65, 66, 67, 68, 69, 70, 101, 102, 103, 200] [x] [] ty h ty56 h46 := gSg.tr (gSg.ss G48 sS49 (by decide)) g55 (by decide) (by decide) (fun x hx => Or.inr hx)
  have t59 : ty56 s = 51 := gSg.typ g55 sS49.1 t40 rfl
  have t60 : ty56 p = 54 := gSg.typ g55 sS49.1 t41 rfl
  have t61 : ty56 c18 = 66 := gSg.typ g55 sS49.1 trq33_0 rfl
  have sS62 : gSs rT 1027 ty56 [] h46 h46 := gSs.rf g55.1
  have G63 : gSg [65, 66, 67, 68, 69, 70, 101, 102, 103, 200] [x] [] ty h ty56 h46 := gSg.ss G58 sS62 (by decide)
  exact gz_end (I := .return_) (len := 1) rfl (Or.inl rfl) ⟨ty56, G63, tg55, rfl, (by dsimp only; omega), (by dsimp only; omega), uq57⟩
set_option maxRecDepth 20000 in
set_option maxHeartbeats 4000000 in
theorem ct_Band0 (d : Nat) {ty : Nat → Nat} {h : gH} (hJ : gJ rT 1027 ty h) (x : Nat) (tx : ty x = 200) (nx : 1027 ≤ x) (lx : x < h.1) (kx : h.2.2.1 x = some (.inr 0)) (zx : h.2.2.2.1 x = 0) (dx : ∀ k, h.2.2.2.2 x k = defaultValue (gGG.2.1 0 k)) (no0 : gNo [82] ty) (uq : gUq ty) : gz gPP gGG gcn (d + 1) gt3 0 (gent [.ref x] 1) [] h (fun q _ => ∃ ty9 : Nat → Nat, gSg [82, 200] [x] [] ty h ty9 q.2.2 ∧ ty9 x = 82 ∧ gfin gt3 q.1 q.2.1 = some none ∧ ((q.2.2.1 : Int) = h.1 + 0) ∧ ((q.2.2.2.1 : Int) = h.2.1 + 0) ∧ gUq ty9) := by
  have hS : gSs rT 1027 ty [] h h := gSs.rf hJ
  have G0 : gSg [82, 200] [x] [] ty h ty h := gSg.rf hJ (fun x hx => by rw [List.mem_singleton.mp hx, tx]; rfl)
  refine gz_s 1 (pc' := 1) (L' := [some (.ref x)]) (S' := [.ref x]) rfl ?_
  refine gz_obj rfl (by decide) (by omega) rfl (by decide) ?_
  refine gz_s 2 (pc' := 6) (L' := [some (.ref x)]) (S' := [.int (zi 1), .ref x]) rfl ?_
  refine gs_rput rfl (by decide) rfl hS.1 tx nx lx kx rfl (Or.inl rfl) (fun h1 g2 nh1 mh1 kh1 zh1 eh1 fh1 => ?_)
  have G3 : gSg [82, 200] [x] [] ty h ty h1 := gSg.tr (gSg.ss G0 hS (by decide)) g2 (by decide) (by decide) (fun x hx => Or.inr hx)
  have sS4 : gSs rT 1027 ty [] h1 h1 := gSs.rf g2.1
  have rf5 := Nat.lt_of_lt_of_eq lx nh1.symm
  have rf6 := zh1.trans zx
  have dd7 : ∀ k, ¬ k ∈ ([1] : List Nat) → h1.2.2.2.2 x k = defaultValue (gGG.2.1 0 k) := raw_dp fh1 (fun k _ => dx k)
  refine gz_s 2 (pc' := 11) (L' := [some (.ref x)]) (S' := [.int (zi 1), .ref x]) rfl ?_
  refine gs_rput rfl (by decide) rfl sS4.1 tx nx rf5 kh1 rfl (Or.inl rfl) (fun h8 g9 nh8 mh8 kh8 zh8 eh8 fh8 => ?_)
  have G10 : gSg [82, 200] [x] [] ty h ty h8 := gSg.tr (gSg.ss G3 sS4 (by decide)) g9 (by decide) (by decide) (fun x hx => Or.inr hx)
  have sS11 : gSs rT 1027 ty [] h8 h8 := gSs.rf g9.1
  have rf12 := Nat.lt_of_lt_of_eq rf5 nh8.symm
  have rf13 := zh8.trans rf6
  have dd14 : ∀ k, ¬ k ∈ ([2, 1] : List Nat) → h8.2.2.2.2 x k = defaultValue (gGG.2.1 0 k) := raw_dp fh8 dd7
  have s15 := (fh8 1 (by decide)).trans eh1
  obtain ⟨ty17, g16, tg16, ug16⟩ := gSg.adx 82 sS11.1 tx nx rf12 rfl kh8 (by show (0 : Nat) ≤ _; have h9 := rf13; omega) (by show _ ≤ (0 : Nat); have h9 := rf13; omega) (fun ty9 w9 k hk => ad82 (by rw [(show h8.2.2.2.2 x 0 = .int (zi 0) from dd14 0 (by decide))]; exact ⟨0, rfl, by show ((-1) : Int) ≤ _; omega, by show _ ≤ (255 : Int); omega⟩) (by rw [s15]; exact ⟨1, rfl, by show ((-1) : Int) ≤ _; omega, by show _ ≤ (15 : Int); omega⟩) (by rw [eh8]; exact ⟨1, rfl, by show (0 : Int) ≤ _; omega, by show _ ≤ (15 : Int); omega⟩) (by rw [(show h8.2.2.2.2 x 3 = .int (zi 0) from dd14 3 (by decide))]; exact ⟨0, rfl, by show ((-1) : Int) ≤ _; omega, by show _ ≤ (255 : Int); omega⟩) (by rw [(show h8.2.2.2.2 x 4 = .int (zi 0) from dd14 4 (by decide))]; exact ⟨0, rfl, by show (0 : Int) ≤ _; omega, by show _ ≤ (16 : Int); omega⟩) (by rw [(show h8.2.2.2.2 x 5 = .int (zi 0) from dd14 5 (by decide))]; exact ⟨0, rfl, by show (0 : Int) ≤ _; omega, by show _ ≤ (16 : Int); omega⟩) (by rw [(show h8.2.2.2.2 x 6 = .int (zi 0) from dd14 6 (by decide))]; exact ⟨0, rfl, by show (0 : Int) ≤ _; omega, by show _ ≤ (16 : Int); omega⟩) (by rw [(show h8.2.2.2.2 x 7 = .int (zi 0) from dd14 7 (by decide))]; exact ⟨0, rfl, by show (0 : Int) ≤ _; omega, by show _ ≤ (16 : Int); omega⟩) (by rw [(show h8.2.2.2.2 x 8 = .int (zi 0) from dd14 8 (by decide))]; exact ⟨0, rfl, by show (0 : Int) ≤ _; omega, by show _ ≤ (192 : Int); omega⟩) (by rw [(show h8.2.2.2.2 x 9 = .int (zi 0) from dd14 9 (by decide))]; exact ⟨0, rfl, by show (0 : Int) ≤ _; omega, by show _ ≤ (15 : Int); omega⟩) (by rw [(show h8.2.2.2.2 x 10 = .int (zi 0) from dd14 10 (by decide))]; exact ⟨0, rfl, by show (0 : Int) ≤ _; omega, by show _ ≤ (15 : Int); omega⟩) (by rw [(show h8.2.2.2.2 x 11 = .int (zi 0) from dd14 11 (by decide))]; exact ⟨0, rfl, by show ((-2147483648) : Int) ≤ _; omega, by show _ ≤ (2147483647 : Int); omega⟩) k)
  have uq18 := ug16 uq (Or.inr no0)
  have G19 : gSg [82, 200] [x] [] ty h ty17 h8 := gSg.tr (gSg.ss G10 sS11 (by decide)) g16 (by decide) (by decide) (fun x hx => Or.inr hx)
  have sS20 : gSs rT 1027 ty17 [] h8 h8 := gSs.rf g16.1
  have G21 : gSg [82, 200] [x] [] ty h ty17 h8 := gSg.ss G19 sS20 (by decide)
  exact gz_end (I := .return_) (len := 1) rfl (Or.inl rfl) ⟨ty17, G21, tg16, rfl, (by dsimp only; omega), (by dsimp only; omega), uq18⟩
set_option maxRecDepth 20000 in
set_option maxHeartbeats 4000000 in
theorem ct_Band1 (d : Nat) {ty : Nat → Nat} {h : gH} (hJ : gJ rT 1027 ty h) (x : Nat) (tx : ty x = 200) (nx : 1027 ≤ x) (lx : x < h.1) (kx : h.2.2.1 x = some (.inr 0)) (zx : h.2.2.2.1 x = 0) (dx : ∀ k, h.2.2.2.2 x k = defaultValue (gGG.2.1 0 k)) (no0 : gNo [83] ty) (uq : gUq ty) : gz gPP gGG gcn (d + 1) gt3 0 (gent [.ref x] 1) [] h (fun q _ => ∃ ty9 : Nat → Nat, gSg [83, 200] [x] [] ty h ty9 q.2.2 ∧ ty9 x = 83 ∧ gfin gt3 q.1 q.2.1 = some none ∧ ((q.2.2.1 : Int) = h.1 + 0) ∧ ((q.2.2.2.1 : Int) = h.2.1 + 0) ∧ gUq ty9) := by
  have hS : gSs rT 1027 ty [] h h := gSs.rf hJ
  have G0 : gSg [83, 200] [x] [] ty h ty h := gSg.rf hJ (fun x hx => by rw [List.mem_singleton.mp hx, tx]; rfl)
  refine gz_s 1 (pc' := 1) (L' := [some (.ref x)]) (S' := [.ref x]) rfl ?_
  refine gz_obj rfl (by decide) (by omega) rfl (by decide) ?_
  refine gz_s 2 (pc' := 6) (L' := [some (.ref x)]) (S' := [.int (zi 1), .ref x]) rfl ?_
  refine gs_rput rfl (by decide) rfl hS.1 tx nx lx kx rfl (Or.inl rfl) (fun h1 g2 nh1 mh1 kh1 zh1 eh1 fh1 => ?_)
  have G3 : gSg [83, 200] [x] [] ty h ty h1 := gSg.tr (gSg.ss G0 hS (by decide)) g2 (by decide) (by decide) (fun x hx => Or.inr hx)
  have sS4 : gSs rT 1027 ty [] h1 h1 := gSs.rf g2.1
  have rf5 := Nat.lt_of_lt_of_eq lx nh1.symm
  have rf6 := zh1.trans zx
  have dd7 : ∀ k, ¬ k ∈ ([1] : List Nat) → h1.2.2.2.2 x k = defaultValue (gGG.2.1 0 k) := raw_dp fh1 (fun k _ => dx k)
  refine gz_s 2 (pc' := 11) (L' := [some (.ref x)]) (S' := [.int (zi 1), .ref x]) rfl ?_
  refine gs_rput rfl (by decide) rfl sS4.1 tx nx rf5 kh1 rfl (Or.inl rfl) (fun h8 g9 nh8 mh8 kh8 zh8 eh8 fh8 => ?_)
  have G10 : gSg [83, 200] [x] [] ty h ty h8 := gSg.tr (gSg.ss G3 sS4 (by decide)) g9 (by decide) (by decide) (fun x hx => Or.inr hx)
  have sS11 : gSs rT 1027 ty [] h8 h8 := gSs.rf g9.1
  have rf12 := Nat.lt_of_lt_of_eq rf5 nh8.symm
  have rf13 := zh8.trans rf6
  have dd14 : ∀ k, ¬ k ∈ ([2, 1] : List Nat) → h8.2.2.2.2 x k = defaultValue (gGG.2.1 0 k) := raw_dp fh8 dd7
  have s15 := (fh8 1 (by decide)).trans eh1
  obtain ⟨ty17, g16, tg16, ug16⟩ := gSg.adx 83 sS11.1 tx nx rf12 rfl kh8 (by show (0 : Nat) ≤ _; have h9 := rf13; omega) (by show _ ≤ (0 : Nat); have h9 := rf13; omega) (fun ty9 w9 k hk => ad83 (by rw [(show h8.2.2.2.2 x 0 = .int (zi 0) from dd14 0 (by decide))]; exact ⟨0, rfl, by show ((-1) : Int) ≤ _; omega, by show _ ≤ (255 : Int); omega⟩) (by rw [s15]; exact ⟨1, rfl, by show ((-1) : Int) ≤ _; omega, by show _ ≤ (15 : Int); omega⟩) (by rw [eh8]; exact ⟨1, rfl, by show (0 : Int) ≤ _; omega, by show _ ≤ (15 : Int); omega⟩) (by rw [(show h8.2.2.2.2 x 3 = .int (zi 0) from dd14 3 (by decide))]; exact ⟨0, rfl, by show ((-1) : Int) ≤ _; omega, by show _ ≤ (255 : Int); omega⟩) (by rw [(show h8.2.2.2.2 x 4 = .int (zi 0) from dd14 4 (by decide))]; exact ⟨0, rfl, by show (0 : Int) ≤ _; omega, by show _ ≤ (16 : Int); omega⟩) (by rw [(show h8.2.2.2.2 x 5 = .int (zi 0) from dd14 5 (by decide))]; exact ⟨0, rfl, by show (0 : Int) ≤ _; omega, by show _ ≤ (16 : Int); omega⟩) (by rw [(show h8.2.2.2.2 x 6 = .int (zi 0) from dd14 6 (by decide))]; exact ⟨0, rfl, by show (0 : Int) ≤ _; omega, by show _ ≤ (16 : Int); omega⟩) (by rw [(show h8.2.2.2.2 x 7 = .int (zi 0) from dd14 7 (by decide))]; exact ⟨0, rfl, by show (0 : Int) ≤ _; omega, by show _ ≤ (16 : Int); omega⟩) (by rw [(show h8.2.2.2.2 x 8 = .int (zi 0) from dd14 8 (by decide))]; exact ⟨0, rfl, by show (0 : Int) ≤ _; omega, by show _ ≤ (192 : Int); omega⟩) (by rw [(show h8.2.2.2.2 x 9 = .int (zi 0) from dd14 9 (by decide))]; exact ⟨0, rfl, by show (0 : Int) ≤ _; omega, by show _ ≤ (15 : Int); omega⟩) (by rw [(show h8.2.2.2.2 x 10 = .int (zi 0) from dd14 10 (by decide))]; exact ⟨0, rfl, by show (0 : Int) ≤ _; omega, by show _ ≤ (15 : Int); omega⟩) (by rw [(show h8.2.2.2.2 x 11 = .int (zi 0) from dd14 11 (by decide))]; exact ⟨0, rfl, by show ((-2147483648) : Int) ≤ _; omega, by show _ ≤ (2147483647 : Int); omega⟩) k)
  have uq18 := ug16 uq (Or.inr no0)
  have G19 : gSg [83, 200] [x] [] ty h ty17 h8 := gSg.tr (gSg.ss G10 sS11 (by decide)) g16 (by decide) (by decide) (fun x hx => Or.inr hx)
  have sS20 : gSs rT 1027 ty17 [] h8 h8 := gSs.rf g16.1
  have G21 : gSg [83, 200] [x] [] ty h ty17 h8 := gSg.ss G19 sS20 (by decide)
  exact gz_end (I := .return_) (len := 1) rfl (Or.inl rfl) ⟨ty17, G21, tg16, rfl, (by dsimp only; omega), (by dsimp only; omega), uq18⟩
set_option maxRecDepth 20000 in
set_option maxHeartbeats 4000000 in
theorem ct_Band2 (d : Nat) {ty : Nat → Nat} {h : gH} (hJ : gJ rT 1027 ty h) (x : Nat) (tx : ty x = 200) (nx : 1027 ≤ x) (lx : x < h.1) (kx : h.2.2.1 x = some (.inr 0)) (zx : h.2.2.2.1 x = 0) (dx : ∀ k, h.2.2.2.2 x k = defaultValue (gGG.2.1 0 k)) (no0 : gNo [84] ty) (uq : gUq ty) : gz gPP gGG gcn (d + 1) gt3 0 (gent [.ref x] 1) [] h (fun q _ => ∃ ty9 : Nat → Nat, gSg [84, 200] [x] [] ty h ty9 q.2.2 ∧ ty9 x = 84 ∧ gfin gt3 q.1 q.2.1 = some none ∧ ((q.2.2.1 : Int) = h.1 + 0) ∧ ((q.2.2.2.1 : Int) = h.2.1 + 0) ∧ gUq ty9) := by
  have hS : gSs rT 1027 ty [] h h := gSs.rf hJ
  have G0 : gSg [84, 200] [x] [] ty h ty h := gSg.rf hJ (fun x hx => by rw [List.mem_singleton.mp hx, tx]; rfl)
  refine gz_s 1 (pc' := 1) (L' := [some (.ref x)]) (S' := [.ref x]) rfl ?_
  refine gz_obj rfl (by decide) (by omega) rfl (by decide) ?_
  refine gz_s 2 (pc' := 6) (L' := [some (.ref x)]) (S' := [.int (zi 1), .ref x]) rfl ?_
  refine gs_rput rfl (by decide) rfl hS.1 tx nx lx kx rfl (Or.inl rfl) (fun h1 g2 nh1 mh1 kh1 zh1 eh1 fh1 => ?_)
  have G3 : gSg [84, 200] [x] [] ty h ty h1 := gSg.tr (gSg.ss G0 hS (by decide)) g2 (by decide) (by decide) (fun x hx => Or.inr hx)
  have sS4 : gSs rT 1027 ty [] h1 h1 := gSs.rf g2.1
  have rf5 := Nat.lt_of_lt_of_eq lx nh1.symm
  have rf6 := zh1.trans zx
  have dd7 : ∀ k, ¬ k ∈ ([1] : List Nat) → h1.2.2.2.2 x k = defaultValue (gGG.2.1 0 k) := raw_dp fh1 (fun k _ => dx k)
  refine gz_s 2 (pc' := 11) (L' := [some (.ref x)]) (S' := [.int (zi 1), .ref x]) rfl ?_
  refine gs_rput rfl (by decide) rfl sS4.1 tx nx rf5 kh1 rfl (Or.inl rfl) (fun h8 g9 nh8 mh8 kh8 zh8 eh8 fh8 => ?_)
  have G10 : gSg [84, 200] [x] [] ty h ty h8 := gSg.tr (gSg.ss G3 sS4 (by decide)) g9 (by decide) (by decide) (fun x hx => Or.inr hx)
  have sS11 : gSs rT 1027 ty [] h8 h8 := gSs.rf g9.1
  have rf12 := Nat.lt_of_lt_of_eq rf5 nh8.symm
  have rf13 := zh8.trans rf6
  have dd14 : ∀ k, ¬ k ∈ ([2, 1] : List Nat) → h8.2.2.2.2 x k = defaultValue (gGG.2.1 0 k) := raw_dp fh8 dd7
  have s15 := (fh8 1 (by decide)).trans eh1
  obtain ⟨ty17, g16, tg16, ug16⟩ := gSg.adx 84 sS11.1 tx nx rf12 rfl kh8 (by show (0 : Nat) ≤ _; have h9 := rf13; omega) (by show _ ≤ (0 : Nat); have h9 := rf13; omega) (fun ty9 w9 k hk => ad84 (by rw [(show h8.2.2.2.2 x 0 = .int (zi 0) from dd14 0 (by decide))]; exact ⟨0, rfl, by show ((-1) : Int) ≤ _; omega, by show _ ≤ (255 : Int); omega⟩) (by rw [s15]; exact ⟨1, rfl, by show ((-1) : Int) ≤ _; omega, by show _ ≤ (15 : Int); omega⟩) (by rw [eh8]; exact ⟨1, rfl, by show (0 : Int) ≤ _; omega, by show _ ≤ (15 : Int); omega⟩) (by rw [(show h8.2.2.2.2 x 3 = .int (zi 0) from dd14 3 (by decide))]; exact ⟨0, rfl, by show ((-1) : Int) ≤ _; omega, by show _ ≤ (255 : Int); omega⟩) (by rw [(show h8.2.2.2.2 x 4 = .int (zi 0) from dd14 4 (by decide))]; exact ⟨0, rfl, by show (0 : Int) ≤ _; omega, by show _ ≤ (16 : Int); omega⟩) (by rw [(show h8.2.2.2.2 x 5 = .int (zi 0) from dd14 5 (by decide))]; exact ⟨0, rfl, by show (0 : Int) ≤ _; omega, by show _ ≤ (16 : Int); omega⟩) (by rw [(show h8.2.2.2.2 x 6 = .int (zi 0) from dd14 6 (by decide))]; exact ⟨0, rfl, by show (0 : Int) ≤ _; omega, by show _ ≤ (16 : Int); omega⟩) (by rw [(show h8.2.2.2.2 x 7 = .int (zi 0) from dd14 7 (by decide))]; exact ⟨0, rfl, by show (0 : Int) ≤ _; omega, by show _ ≤ (16 : Int); omega⟩) (by rw [(show h8.2.2.2.2 x 8 = .int (zi 0) from dd14 8 (by decide))]; exact ⟨0, rfl, by show (0 : Int) ≤ _; omega, by show _ ≤ (192 : Int); omega⟩) (by rw [(show h8.2.2.2.2 x 9 = .int (zi 0) from dd14 9 (by decide))]; exact ⟨0, rfl, by show (0 : Int) ≤ _; omega, by show _ ≤ (15 : Int); omega⟩) (by rw [(show h8.2.2.2.2 x 10 = .int (zi 0) from dd14 10 (by decide))]; exact ⟨0, rfl, by show (0 : Int) ≤ _; omega, by show _ ≤ (15 : Int); omega⟩) (by rw [(show h8.2.2.2.2 x 11 = .int (zi 0) from dd14 11 (by decide))]; exact ⟨0, rfl, by show ((-2147483648) : Int) ≤ _; omega, by show _ ≤ (2147483647 : Int); omega⟩) k)
  have uq18 := ug16 uq (Or.inr no0)
  have G19 : gSg [84, 200] [x] [] ty h ty17 h8 := gSg.tr (gSg.ss G10 sS11 (by decide)) g16 (by decide) (by decide) (fun x hx => Or.inr hx)
  have sS20 : gSs rT 1027 ty17 [] h8 h8 := gSs.rf g16.1
  have G21 : gSg [84, 200] [x] [] ty h ty17 h8 := gSg.ss G19 sS20 (by decide)
  exact gz_end (I := .return_) (len := 1) rfl (Or.inl rfl) ⟨ty17, G21, tg16, rfl, (by dsimp only; omega), (by dsimp only; omega), uq18⟩
set_option maxRecDepth 20000 in
set_option maxHeartbeats 4000000 in
theorem ct_Suited0 (d : Nat) {ty : Nat → Nat} {h : gH} (hJ : gJ rT 1027 ty h) (x : Nat) (tx : ty x = 200) (nx : 1027 ≤ x) (lx : x < h.1) (kx : h.2.2.1 x = some (.inr 9)) (zx : h.2.2.2.1 x = 0) (dx : ∀ k, h.2.2.2.2 x k = defaultValue (gGG.2.1 9 k)) (no0 : gNo [91, 93, 94, 95, 96, 97, 98, 99] ty) (uq : gUq ty) : gz gPP gGG gcn (d + 1) gt91 0 (gent [.ref x] 1) [] h (fun q _ => ∃ ty9 : Nat → Nat, gSg [91, 93, 94, 95, 96, 97, 98, 99, 200] [x] [] ty h ty9 q.2.2 ∧ ty9 x = 91 ∧ gfin gt91 q.1 q.2.1 = some none ∧ ((q.2.2.1 : Int) = h.1 + 7) ∧ ((q.2.2.2.1 : Int) = h.2.1 + 1558) ∧ gUq ty9) := by
  have hS : gSs rT 1027 ty [] h h := gSs.rf hJ
  have G0 : gSg [91, 93, 94, 95, 96, 97, 98, 99, 200] [x] [] ty h ty h := gSg.rf hJ (fun x hx => by rw [List.mem_singleton.mp hx, tx]; rfl)
  refine gz_s 1 (pc' := 1) (L' := [some (.ref x)]) (S' := [.ref x]) rfl ?_
  refine gz_obj rfl (by decide) (by omega) rfl (by decide) ?_
  refine gz_s 2 (pc' := 7) (L' := [some (.ref x)]) (S' := [.int (zi 17), .ref x]) rfl ?_
  refine gs_newr 93 rfl (by decide) rfl hS.1 (Nat.le_of_lt (Nat.lt_of_le_of_lt nx lx)) (by omega) (by omega) rfl rfl (by show (17 : Int) ≤ _; omega) (by show _ ≤ (17 : Int); omega) (fun _ _ => gos_i (by decide) (by decide)) (fun ty1 h2 c3 g4 tc3 lc3 nc3 mc3 ec3 dc3 uc3 => ?_)
  have gac3 : h.1 ≤ c3 := by have h8 := G0.2.1; have h9 := hS.2.1; omega
  have uq5 := uc3 uq (Or.inr (gNo.sub (by decide) no0))
  have G6 : gSg [91, 93, 94, 95, 96, 97, 98, 99, 200] [x] [] ty h ty1 h2 := gSg.tr (gSg.ss G0 hS (by decide)) g4 (by decide) (by decide) (fun x hx => by cases hx)
  have rw7 := gSg.raw g4 lx (fun w => by cases w)
  have rf8 := (rw7.2.2.1.trans kx)
  have rf9 := (rw7.2.2.2.trans zx)
  have dd10 := gSg.rawd (ci := 9) (ps := []) g4 lx (fun w => by cases w) tx (by decide) (fun k _ => dx k)
  have t11 : ty1 x = 200 := rw7.1.trans tx
  have pr12 : gNo [91, 94, 95, 96, 97, 98, 99] ty1 := gNo.gr g4 (by decide) (gNo.sub (by decide) no0)
  have sS13 : gSs rT 1027 ty1 [] h2 h2 := gSs.rf g4.1
  refine gs_rput rfl (by decide) rfl sS13.1 t11 nx rw7.2.1 rf8 rfl (Or.inr rfl) (fun h14 g15 nh14 mh14 kh14 zh14 eh14 fh14 => ?_)
  have G16 : gSg [91, 93, 94, 95, 96, 97, 98, 99, 200] [x] [] ty h ty1 h14 := gSg.tr (gSg.ss G6 sS13 (by decide)) g15 (by decide) (by decide) (fun x hx => Or.inr hx)
  have sS17 : gSs rT 1027 ty1 [] h14 h14 := gSs.rf g15.1
  have rf18 := Nat.lt_of_lt_of_eq rw7.2.1 nh14.symm
  have rf19 := zh14.trans rf9
  have dd20 : ∀ k, ¬ k ∈ ([0] : List Nat) → h14.2.2.2.2 x k = defaultValue (gGG.2.1 9 k) := raw_dp fh14 dd10
  refine gz_s 2 (pc' := 16) (L' := [some (.ref x)]) (S' := [.int (zi 256), .ref x]) rfl ?_
  refine gs_newr 94 rfl (by decide) rfl sS17.1 (Nat.le_of_lt (Nat.lt_of_le_of_lt (gJ.cell sS17.1 tc3 rfl).1 (gJ.cell sS17.1 tc3 rfl).2.1)) (by omega) (by omega) rfl rfl (by show (256 : Int) ≤ _; omega) (by show _ ≤ (256 : Int); omega) (fun _ _ => gos_i (by decide) (by decide)) (fun ty21 h22 c23 g24 tc23 lc23 nc23 mc23 ec23 dc23 uc23 => ?_)
  have gac23 : h.1 ≤ c23 := by have h8 := G16.2.1; have h9 := sS17.2.1; omega
  have uq25 := uc23 uq5 (Or.inr (gNo.sub (by decide) pr12))
  have G26 : gSg [91, 93, 94, 95, 96, 97, 98, 99, 200] [x] [] ty h ty21 h22 := gSg.tr (gSg.ss G16 sS17 (by decide)) g24 (by decide) (by decide) (fun x hx => by cases hx)
  have rw27 := gSg.raw g24 rf18 (fun w => by cases w)
  have rf28 := (rw27.2.2.1.trans kh14)
  have rf29 := (rw27.2.2.2.trans rf19)
  have dd30 := gSg.rawd (ci := 9) (ps := [0]) g24 rf18 (fun w => by cases w) t11 (by decide) dd20
  have t31 : ty21 x = 200 := rw27.1.trans t11
  have t32 : ty21 c3 = 93 := gSg.typ g24 sS17.1 tc3 rfl
  have s33 := gSg.rawat g24 rf18 (fun w => by cases w) t11 (by decide) eh14
  have pr34 : gNo [91, 95, 96, 97, 98, 99] ty21 := gNo.gr g24 (by decide) (gNo.sub (by decide) pr12)
  have sS35 : gSs rT 1027 ty21 [] h22 h22 := gSs.rf g24.1
  refine gs_rput rfl (by decide) rfl sS35.1 t31 nx rw27.2.1 rf28 rfl (Or.inr rfl) (fun h36 g37 nh36 mh36 kh36 zh36 eh36 fh36 => ?_)
  have G38 : gSg [91, 93, 94, 95, 96, 97, 98, 99, 200] [x] [] ty h ty21 h36 := gSg.tr (gSg.ss G26 sS35 (by decide)) g37 (by decide) (by decide) (fun x hx => Or.inr hx)
  have sS39 : gSs rT 1027 ty21 [] h36 h36 := gSs.rf g37.1
  have rf40 := Nat.lt_of_lt_of_eq rw27.2.1 nh36.symm
  have rf41 := zh36.trans rf29
  have dd42 : ∀ k, ¬ k ∈ ([1, 0] : List Nat) → h36.2.2.2.2 x k = defaultValue (gGG.2.1 9 k) := raw_dp fh36 dd30
  have s43 := (fh36 0 (by decide)).trans s33
  refine gz_s 2 (pc' := 25) (L' := [some (.ref x)]) (S' := [.int (zi 257), .ref x]) rfl ?_
  refine gs_newr 95 rfl (by decide) rfl sS39.1 (Nat.le_of_lt (Nat.lt_of_le_of_lt (gJ.cell sS39.1 t32 rfl).1 (gJ.cell sS39.1 t32 rfl).2.1)) (by omega) (by omega) rfl rfl (by show (257 : Int) ≤ _; omega) (by show _ ≤ (257 : Int); omega) (fun _ _ => gos_i (by decide) (by decide)) (fun ty44 h45 c46 g47 tc46 lc46 nc46 mc46 ec46 dc46 uc46 => ?_)
  have gac46 : h.1 ≤ c46 := by have h8 := G38.2.1; have h9 := sS39.2.1; omega
  have uq48 := uc46 uq25 (Or.inr (gNo.sub (by decide) pr34))
  have G49 : gSg [91, 93, 94, 95, 96, 97, 98, 99, 200] [x] [] ty h ty44 h45 := gSg.tr (gSg.ss G38 sS39 (by decide)) g47 (by decide) (by decide) (fun x hx => by cases hx)
  have rw50 := gSg.raw g47 rf40 (fun w => by cases w)
  have rf51 := (rw50.2.2.1.trans kh36)
  have rf52 := (rw50.2.2.2.trans rf41)
  have dd53 := gSg.rawd (ci := 9) (ps := [1, 0]) g47 rf40 (fun w => by cases w) t31 (by decide) dd42
  have t54 : ty44 x = 200 := rw50.1.trans t31
  have t55 : ty44 c3 = 93 := gSg.typ g47 sS39.1 t32 rfl
  have t56 : ty44 c23 = 94 := gSg.typ g47 sS39.1 tc23 rfl
  have s57 := gSg.rawat g47 rf40 (fun w => by cases w) t31 (by decide) s43
  have s58 := gSg.rawat g47 rf40 (fun w => by cases w) t31 (by decide) eh36
  have pr59 : gNo [91, 96, 97, 98, 99] ty44 := gNo.gr g47 (by decide) (gNo.sub (by decide) pr34)
  have sS60 : gSs rT 1027 ty44 [] h45 h45 := gSs.rf g47.1
  refine gs_rput rfl (by decide) rfl sS60.1 t54 nx rw50.2.1 rf51 rfl (Or.inr rfl) (fun h61 g62 nh61 mh61 kh61 zh61 eh61 fh61 => ?_)
  have G63 : gSg [91, 93, 94, 95, 96, 97, 98, 99, 200] [x] [] ty h ty44 h61 := gSg.tr (gSg.ss G49 sS60 (by decide)) g62 (by decide) (by decide) (fun x hx => Or.inr hx)
  have sS64 : gSs rT 1027 ty44 [] h61 h61 := gSs.rf g62.1
  have rf65 := Nat.lt_of_lt_of_eq rw50.2.1 nh61.symm
  have rf66 := zh61.trans rf52
  have dd67 : ∀ k, ¬ k ∈ ([2, 1, 0] : List Nat) → h61.2.2.2.2 x k = defaultValue (gGG.2.1 9 k) := raw_dp fh61 dd53
  have s68 := (fh61 0 (by decide)).trans s57
  have s69 := (fh61 1 (by decide)).trans s58
  refine gz_s 2 (pc' := 34) (L' := [some (.ref x)]) (S' := [.int (zi 257), .ref x]) rfl ?_
  refine gs_newr 96 rfl (by decide) rfl sS64.1 (Nat.le_of_lt (Nat.lt_of_le_of_lt (gJ.cell sS64.1 t55 rfl).1 (gJ.cell sS64.1 t55 rfl).2.1)) (by omega) (by omega) rfl rfl (by show (257 : Int) ≤ _; omega) (by show _ ≤ (257 : Int); omega) (fun _ _ => gos_i (by decide) (by decide)) (fun ty70 h71 c72 g73 tc72 lc72 nc72 mc72 ec72 dc72 uc72 => ?_)
  have gac72 : h.1 ≤ c72 := by have h8 := G63.2.1; have h9 := sS64.2.1; omega
  have uq74 := uc72 uq48 (Or.inr (gNo.sub (by decide) pr59))
  have G75 : gSg [91, 93, 94, 95, 96, 97, 98, 99, 200] [x] [] ty h ty70 h71 := gSg.tr (gSg.ss G63 sS64 (by decide)) g73 (by decide) (by decide) (fun x hx => by cases hx)
  have rw76 := gSg.raw g73 rf65 (fun w => by cases w)
  have rf77 := (rw76.2.2.1.trans kh61)
  have rf78 := (rw76.2.2.2.trans rf66)
  have dd79 := gSg.rawd (ci := 9) (ps := [2, 1, 0]) g73 rf65 (fun w => by cases w) t54 (by decide) dd67
  have t80 : ty70 x = 200 := rw76.1.trans t54
  have t81 : ty70 c3 = 93 := gSg.typ g73 sS64.1 t55 rfl
  have t82 : ty70 c23 = 94 := gSg.typ g73 sS64.1 t56 rfl
  have t83 : ty70 c46 = 95 := gSg.typ g73 sS64.1 tc46 rfl
  have s84 := gSg.rawat g73 rf65 (fun w => by cases w) t54 (by decide) s68
  have s85 := gSg.rawat g73 rf65 (fun w => by cases w) t54 (by decide) s69
  have s86 := gSg.rawat g73 rf65 (fun w => by cases w) t54 (by decide) eh61
  have pr87 : gNo [91, 97, 98, 99] ty70 := gNo.gr g73 (by decide) (gNo.sub (by decide) pr59)
  have sS88 : gSs rT 1027 ty70 [] h71 h71 := gSs.rf g73.1
  refine gs_rput rfl (by decide) rfl sS88.1 t80 nx rw76.2.1 rf77 rfl (Or.inr rfl) (fun h89 g90 nh89 mh89 kh89 zh89 eh89 fh89 => ?_)
  have G91 : gSg [91, 93, 94, 95, 96, 97, 98, 99, 200] [x] [] ty h ty70 h89 := gSg.tr (gSg.ss G75 sS88 (by decide)) g90 (by decide) (by decide) (fun x hx => Or.inr hx)
  have sS92 : gSs rT 1027 ty70 [] h89 h89 := gSs.rf g90.1
  have rf93 := Nat.lt_of_lt_of_eq rw76.2.1 nh89.symm
  have rf94 := zh89.trans rf78
  have dd95 : ∀ k, ¬ k ∈ ([3, 2, 1, 0] : List Nat) → h89.2.2.2.2 x k = defaultValue (gGG.2.1 9 k) := raw_dp fh89 dd79
  have s96 := (fh89 0 (by decide)).trans s84
  have s97 := (fh89 1 (by decide)).trans s85
  have s98 := (fh89 2 (by decide)).trans s86
  refine gz_s 2 (pc' := 43) (L' := [some (.ref x)]) (S' := [.int (zi 257), .ref x]) rfl ?_
  refine gs_newr 97 rfl (by decide) rfl sS92.1 (Nat.le_of_lt (Nat.lt_of_le_of_lt (gJ.cell sS92.1 t81 rfl).1 (gJ.cell sS92.1 t81 rfl).2.1)) (by omega) (by omega) rfl rfl (by show (257 : Int) ≤ _; omega) (by show _ ≤ (257 : Int); omega) (fun _ _ => gos_i (by decide) (by decide)) (fun ty99 h100 c101 g102 tc101 lc101 nc101 mc101 ec101 dc101 uc101 => ?_)
  have gac101 : h.1 ≤ c101 := by have h8 := G91.2.1; have h9 := sS92.2.1; omega
  have uq103 := uc101 uq74 (Or.inr (gNo.sub (by decide) pr87))
  have G104 : gSg [91, 93, 94, 95, 96, 97, 98, 99, 200] [x] [] ty h ty99 h100 := gSg.tr (gSg.ss G91 sS92 (by decide)) g102 (by decide) (by decide) (fun x hx => by cases hx)
  have rw105 := gSg.raw g102 rf93 (fun w => by cases w)
  have rf106 := (rw105.2.2.1.trans kh89)
  have rf107 := (rw105.2.2.2.trans rf94)
  have dd108 := gSg.rawd (ci := 9) (ps := [3, 2, 1, 0]) g102 rf93 (fun w => by cases w) t80 (by decide) dd95
  have t109 : ty99 x = 200 := rw105.1.trans t80
  have t110 : ty99 c3 = 93 := gSg.typ g102 sS92.1 t81 rfl
  have t111 : ty99 c23 = 94 := gSg.typ g102 sS92.1 t82 rfl
  have t112 : ty99 c46 = 95 := gSg.typ g102 sS92.1 t83 rfl
  have t113 : ty99 c72 = 96 := gSg.typ g102 sS92.1 tc72 rfl
  have s114 := gSg.rawat g102 rf93 (fun w => by cases w) t80 (by decide) s96
  have s115 := gSg.rawat g102 rf93 (fun w => by cases w) t80 (by decide) s97
  have s116 := gSg.rawat g102 rf93 (fun w => by cases w) t80 (by decide) s98
  have s117 := gSg.rawat g102 rf93 (fun w => by cases w) t80 (by decide) eh89
  have pr118 : gNo [91, 98, 99] ty99 := gNo.gr g102 (by decide) (gNo.sub (by decide) pr87)
  have sS119 : gSs rT 1027 ty99 [] h100 h100 := gSs.rf g102.1
  refine gs_rput rfl (by decide) rfl sS119.1 t109 nx rw105.2.1 rf106 rfl (Or.inr rfl) (fun h120 g121 nh120 mh120 kh120 zh120 eh120 fh120 => ?_)
  have G122 : gSg [91, 93, 94, 95, 96, 97, 98, 99, 200] [x] [] ty h ty99 h120 := gSg.tr (gSg.ss G104 sS119 (by decide)) g121 (by decide) (by decide) (fun x hx => Or.inr hx)
  have sS123 : gSs rT 1027 ty99 [] h120 h120 := gSs.rf g121.1
  have rf124 := Nat.lt_of_lt_of_eq rw105.2.1 nh120.symm
  have rf125 := zh120.trans rf107
  have dd126 : ∀ k, ¬ k ∈ ([5, 3, 2, 1, 0] : List Nat) → h120.2.2.2.2 x k = defaultValue (gGG.2.1 9 k) := raw_dp fh120 dd108
  have s127 := (fh120 0 (by decide)).trans s114
  have s128 := (fh120 1 (by decide)).trans s115
  have s129 := (fh120 2 (by decide)).trans s116
  have s130 := (fh120 3 (by decide)).trans s117
  refine gz_s 2 (pc' := 52) (L' := [some (.ref x)]) (S' := [.int (zi 257), .ref x]) rfl ?_
  refine gs_newr 98 rfl (by decide) rfl sS123.1 (Nat.le_of_lt (Nat.lt_of_le_of_lt (gJ.cell sS123.1 t110 rfl).1 (gJ.cell sS123.1 t110 rfl).2.1)) (by omega) (by omega) rfl rfl (by show (257 : Int) ≤ _; omega) (by show _ ≤ (257 : Int); omega) (fun _ _ => gos_i (by decide) (by decide)) (fun ty131 h132 c133 g134 tc133 lc133 nc133 mc133 ec133 dc133 uc133 => ?_)
  have gac133 : h.1 ≤ c133 := by have h8 := G122.2.1; have h9 := sS123.2.1; omega
  have uq135 := uc133 uq103 (Or.inr (gNo.sub (by decide) pr118))
  have G136 : gSg [91, 93, 94, 95, 96, 97, 98, 99, 200] [x] [] ty h ty131 h132 := gSg.tr (gSg.ss G122 sS123 (by decide)) g134 (by decide) (by decide) (fun x hx => by cases hx)
  have rw137 := gSg.raw g134 rf124 (fun w => by cases w)
  have rf138 := (rw137.2.2.1.trans kh120)
  have rf139 := (rw137.2.2.2.trans rf125)
  have dd140 := gSg.rawd (ci := 9) (ps := [5, 3, 2, 1, 0]) g134 rf124 (fun w => by cases w) t109 (by decide) dd126
  have t141 : ty131 x = 200 := rw137.1.trans t109
  have t142 : ty131 c3 = 93 := gSg.typ g134 sS123.1 t110 rfl
  have t143 : ty131 c23 = 94 := gSg.typ g134 sS123.1 t111 rfl
  have t144 : ty131 c46 = 95 := gSg.typ g134 sS123.1 t112 rfl
  have t145 : ty131 c72 = 96 := gSg.typ g134 sS123.1 t113 rfl
  have t146 : ty131 c101 = 97 := gSg.typ g134 sS123.1 tc101 rfl
  have s147 := gSg.rawat g134 rf124 (fun w => by cases w) t109 (by decide) s127
  have s148 := gSg.rawat g134 rf124 (fun w => by cases w) t109 (by decide) s128
  have s149 := gSg.rawat g134 rf124 (fun w => by cases w) t109 (by decide) s129
  have s150 := gSg.rawat g134 rf124 (fun w => by cases w) t109 (by decide) s130
  have s151 := gSg.rawat g134 rf124 (fun w => by cases w) t109 (by decide) eh120
  have pr152 : gNo [91, 99] ty131 := gNo.gr g134 (by decide) (gNo.sub (by decide) pr118)
  have sS153 : gSs rT 1027 ty131 [] h132 h132 := gSs.rf g134.1
  refine gs_rput rfl (by decide) rfl sS153.1 t141 nx rw137.2.1 rf138 rfl (Or.inr rfl) (fun h154 g155 nh154 mh154 kh154 zh154 eh154 fh154 => ?_)
  have G156 : gSg [91, 93, 94, 95, 96, 97, 98, 99, 200] [x] [] ty h ty131 h154 := gSg.tr (gSg.ss G136 sS153 (by decide)) g155 (by decide) (by decide) (fun x hx => Or.inr hx)
  have sS157 : gSs rT 1027 ty131 [] h154 h154 := gSs.rf g155.1
  have rf158 := Nat.lt_of_lt_of_eq rw137.2.1 nh154.symm
  have rf159 := zh154.trans rf139
  have dd160 : ∀ k, ¬ k ∈ ([6, 5, 3, 2, 1, 0] : List Nat) → h154.2.2.2.2 x k = defaultValue (gGG.2.1 9 k) := raw_dp fh154 dd140
  have s161 := (fh154 0 (by decide)).trans s147
  have s162 := (fh154 1 (by decide)).trans s148
  have s163 := (fh154 2 (by decide)).trans s149
  have s164 := (fh154 3 (by decide)).trans s150
  have s165 := (fh154 5 (by decide)).trans s151
  refine gz_s 2 (pc' := 61) (L' := [some (.ref x)]) (S' := [.int (zi 257), .ref x]) rfl ?_
  refine gs_newr 99 rfl (by decide) rfl sS157.1 (Nat.le_of_lt (Nat.lt_of_le_of_lt (gJ.cell sS157.1 t142 rfl).1 (gJ.cell sS157.1 t142 rfl).2.1)) (by omega) (by omega) rfl rfl (by show (257 : Int) ≤ _; omega) (by show _ ≤ (257 : Int); omega) (fun _ _ => gos_i (by decide) (by decide)) (fun ty166 h167 c168 g169 tc168 lc168 nc168 mc168 ec168 dc168 uc168 => ?_)
  have gac168 : h.1 ≤ c168 := by have h8 := G156.2.1; have h9 := sS157.2.1; omega
  have uq170 := uc168 uq135 (Or.inr (gNo.sub (by decide) pr152))
  have G171 : gSg [91, 93, 94, 95, 96, 97, 98, 99, 200] [x] [] ty h ty166 h167 := gSg.tr (gSg.ss G156 sS157 (by decide)) g169 (by decide) (by decide) (fun x hx => by cases hx)
  have rw172 := gSg.raw g169 rf158 (fun w => by cases w)
  have rf173 := (rw172.2.2.1.trans kh154)
  have rf174 := (rw172.2.2.2.trans rf159)
  have dd175 := gSg.rawd (ci := 9) (ps := [6, 5, 3, 2, 1, 0]) g169 rf158 (fun w => by cases w) t141 (by decide) dd160
  have t176 : ty166 x = 200 := rw172.1.trans t141
  have t177 : ty166 c3 = 93 := gSg.typ g169 sS157.1 t142 rfl
  have t178 : ty166 c23 = 94 := gSg.typ g169 sS157.1 t143 rfl
  have t179 : ty166 c46 = 95 := gSg.typ g169 sS157.1 t144 rfl
  have t180 : ty166 c72 = 96 := gSg.typ g169 sS157.1 t145 rfl
  have t181 : ty166 c101 = 97 := gSg.typ g169 sS157.1 t146 rfl
  have t182 : ty166 c133 = 98 := gSg.typ g169 sS157.1 tc133 rfl
  have s183 := gSg.rawat g169 rf158 (fun w => by cases w) t141 (by decide) s161
  have s184 := gSg.rawat g169 rf158 (fun w => by cases w) t141 (by decide) s162
  have s185 := gSg.rawat g169 rf158 (fun w => by cases w) t141 (by decide) s163
  have s186 := gSg.rawat g169 rf158 (fun w => by cases w) t141 (by decide) s164
  have s187 := gSg.rawat g169 rf158 (fun w => by cases w) t141 (by decide) s165
  have s188 := gSg.rawat g169 rf158 (fun w => by cases w) t141 (by decide) eh154
  have pr189 : gNo [91] ty166 := gNo.gr g169 (by decide) (gNo.sub (by decide) pr152)
  have sS190 : gSs rT 1027 ty166 [] h167 h167 := gSs.rf g169.1
  refine gs_rput rfl (by decide) rfl sS190.1 t176 nx rw172.2.1 rf173 rfl (Or.inr rfl) (fun h191 g192 nh191 mh191 kh191 zh191 eh191 fh191 => ?_)
  have G193 : gSg [91, 93, 94, 95, 96, 97, 98, 99, 200] [x] [] ty h ty166 h191 := gSg.tr (gSg.ss G171 sS190 (by decide)) g192 (by decide) (by decide) (fun x hx => Or.inr hx)
  have sS194 : gSs rT 1027 ty166 [] h191 h191 := gSs.rf g192.1
  have rf195 := Nat.lt_of_lt_of_eq rw172.2.1 nh191.symm
  have rf196 := zh191.trans rf174
  have dd197 : ∀ k, ¬ k ∈ ([7, 6, 5, 3, 2, 1, 0] : List Nat) → h191.2.2.2.2 x k = defaultValue (gGG.2.1 9 k) := raw_dp fh191 dd175
  have s198 := (fh191 0 (by decide)).trans s183
  have s199 := (fh191 1 (by decide)).trans s184
  have s200 := (fh191 2 (by decide)).trans s185
  have s201 := (fh191 3 (by decide)).trans s186
  have s202 := (fh191 5 (by decide)).trans s187
  have s203 := (fh191 6 (by decide)).trans s188
  obtain ⟨ty205, g204, tg204, ug204⟩ := gSg.adx 91 sS194.1 t176 nx rf195 rfl kh191 (by show (0 : Nat) ≤ _; have h9 := rf196; omega) (by show _ ≤ (0 : Nat); have h9 := rf196; omega) (fun ty9 w9 k hk => ad91 (by rw [s198]; exact ⟨c3, rfl, w9 c3 _ t177 (by decide)⟩) (by rw [s199]; exact ⟨c23, rfl, w9 c23 _ t178 (by decide)⟩) (by rw [s200]; exact ⟨c46, rfl, w9 c46 _ t179 (by decide)⟩) (by rw [s201]; exact ⟨c72, rfl, w9 c72 _ t180 (by decide)⟩) (by rw [(show h191.2.2.2.2 x 4 = .int (zi 0) from dd197 4 (by decide))]; exact ⟨0, rfl, by show (0 : Int) ≤ _; omega, by show _ ≤ (256 : Int); omega⟩) (by rw [s202]; exact ⟨c101, rfl, w9 c101 _ t181 (by decide)⟩) (by rw [s203]; exact ⟨c133, rfl, w9 c133 _ t182 (by decide)⟩) (by rw [eh191]; exact ⟨c168, rfl, w9 c168 _ tc168 (by decide)⟩) (by rw [(show h191.2.2.2.2 x 8 = .int (zi 0) from dd197 8 (by decide))]; exact ⟨0, rfl, by show (0 : Int) ≤ _; omega, by show _ ≤ (257 : Int); omega⟩) k)
  have uq206 := ug204 uq170 (Or.inr pr189)
  have G207 : gSg [91, 93, 94, 95, 96, 97, 98, 99, 200] [x] [] ty h ty205 h191 := gSg.tr (gSg.ss G193 sS194 (by decide)) g204 (by decide) (by decide) (fun x hx => Or.inr hx)
  have t208 : ty205 c3 = 93 := gSg.typ g204 sS194.1 t177 rfl
  have t209 : ty205 c23 = 94 := gSg.typ g204 sS194.1 t178 rfl
  have t210 : ty205 c46 = 95 := gSg.typ g204 sS194.1 t179 rfl
  have t211 : ty205 c72 = 96 := gSg.typ g204 sS194.1 t180 rfl
  have t212 : ty205 c101 = 97 := gSg.typ g204 sS194.1 t181 rfl
  have t213 : ty205 c133 = 98 := gSg.typ g204 sS194.1 t182 rfl
  have t214 : ty205 c168 = 99 := gSg.typ g204 sS194.1 tc168 rfl
  have sS215 : gSs rT 1027 ty205 [] h191 h191 := gSs.rf g204.1
  have G216 : gSg [91, 93, 94, 95, 96, 97, 98, 99, 200] [x] [] ty h ty205 h191 := gSg.ss G207 sS215 (by decide)
  exact gz_end (I := .return_) (len := 1) rfl (Or.inl rfl) ⟨ty205, G216, tg204, rfl, (by dsimp only; omega), (by dsimp only; omega), uq206⟩
set_option maxRecDepth 20000 in
set_option maxHeartbeats 4000000 in
theorem ct_Suited1 (d : Nat) {ty : Nat → Nat} {h : gH} (hJ : gJ rT 1027 ty h) (x : Nat) (tx : ty x = 200) (nx : 1027 ≤ x) (lx : x < h.1) (kx : h.2.2.1 x = some (.inr 9)) (zx : h.2.2.2.1 x = 0) (dx : ∀ k, h.2.2.2.2 x k = defaultValue (gGG.2.1 9 k)) (no0 : gNo [76, 77, 78, 79, 80, 81, 85, 92] ty) (uq : gUq ty) : gz gPP gGG gcn (d + 1) gt91 0 (gent [.ref x] 1) [] h (fun q _ => ∃ ty9 : Nat → Nat, gSg [76, 77, 78, 79, 80, 81, 85, 92, 200] [x] [] ty h ty9 q.2.2 ∧ ty9 x = 92 ∧ gfin gt91 q.1 q.2.1 = some none ∧ ((q.2.2.1 : Int) = h.1 + 7) ∧ ((q.2.2.2.1 : Int) = h.2.1 + 1558) ∧ gUq ty9) := by
  have hS : gSs rT 1027 ty [] h h := gSs.rf hJ
  have G0 : gSg [76, 77, 78, 79, 80, 81, 85, 92, 200] [x] [] ty h ty h := gSg.rf hJ (fun x hx => by rw [List.mem_singleton.mp hx, tx]; rfl)
  refine gz_s 1 (pc' := 1) (L' := [some (.ref x)]) (S' := [.ref x]) rfl ?_
  refine gz_obj rfl (by decide) (by omega) rfl (by decide) ?_
  refine gz_s 2 (pc' := 7) (L' := [some (.ref x)]) (S' := [.int (zi 17), .ref x]) rfl ?_
  refine gs_newr 76 rfl (by decide) rfl hS.1 (Nat.le_of_lt (Nat.lt_of_le_of_lt nx lx)) (by omega) (by omega) rfl rfl (by show (17 : Int) ≤ _; omega) (by show _ ≤ (17 : Int); omega) (fun _ _ => gos_i (by decide) (by decide)) (fun ty1 h2 c3 g4 tc3 lc3 nc3 mc3 ec3 dc3 uc3 => ?_)
  have gac3 : h.1 ≤ c3 := by have h8 := G0.2.1; have h9 := hS.2.1; omega
  have uq5 := uc3 uq (Or.inr (gNo.sub (by decide) no0))
  have G6 : gSg [76, 77, 78, 79, 80, 81, 85, 92, 200] [x] [] ty h ty1 h2 := gSg.tr (gSg.ss G0 hS (by decide)) g4 (by decide) (by decide) (fun x hx => by cases hx)
  have rw7 := gSg.raw g4 lx (fun w => by cases w)
  have rf8 := (rw7.2.2.1.trans kx)
  have rf9 := (rw7.2.2.2.trans zx)
  have dd10 := gSg.rawd (ci := 9) (ps := []) g4 lx (fun w => by cases w) tx (by decide) (fun k _ => dx k)
  have t11 : ty1 x = 200 := rw7.1.trans tx
  have pr12 : gNo [77, 78, 79, 80, 81, 85, 92] ty1 := gNo.gr g4 (by decide) (gNo.sub (by decide) no0)
  have sS13 : gSs rT 1027 ty1 [] h2 h2 := gSs.rf g4.1
  refine gs_rput rfl (by decide) rfl sS13.1 t11 nx rw7.2.1 rf8 rfl (Or.inr rfl) (fun h14 g15 nh14 mh14 kh14 zh14 eh14 fh14 => ?_)
  have G16 : gSg [76, 77, 78, 79, 80, 81, 85, 92, 200] [x] [] ty h ty1 h14 := gSg.tr (gSg.ss G6 sS13 (by decide)) g15 (by decide) (by decide) (fun x hx => Or.inr hx)
  have sS17 : gSs rT 1027 ty1 [] h14 h14 := gSs.rf g15.1
  have rf18 := Nat.lt_of_lt_of_eq rw7.2.1 nh14.symm
  have rf19 := zh14.trans rf9
  have dd20 : ∀ k, ¬ k ∈ ([0] : List Nat) → h14.2.2.2.2 x k = defaultValue (gGG.2.1 9 k) := raw_dp fh14 dd10
  refine gz_s 2 (pc' := 16) (L' := [some (.ref x)]) (S' := [.int (zi 256), .ref x]) rfl ?_
  refine gs_newr 77 rfl (by decide) rfl sS17.1 (Nat.le_of_lt (Nat.lt_of_le_of_lt (gJ.cell sS17.1 tc3 rfl).1 (gJ.cell sS17.1 tc3 rfl).2.1)) (by omega) (by omega) rfl rfl (by show (256 : Int) ≤ _; omega) (by show _ ≤ (256 : Int); omega) (fun _ _ => gos_i (by decide) (by decide)) (fun ty21 h22 c23 g24 tc23 lc23 nc23 mc23 ec23 dc23 uc23 => ?_)
  have gac23 : h.1 ≤ c23 := by have h8 := G16.2.1; have h9 := sS17.2.1; omega
  have uq25 := uc23 uq5 (Or.inr (gNo.sub (by decide) pr12))
  have G26 : gSg [76, 77, 78, 79, 80, 81, 85, 92, 200] [x] [] ty h ty21 h22 := gSg.tr (gSg.ss G16 sS17 (by decide)) g24 (by decide) (by decide) (fun x hx => by cases hx)
  have rw27 := gSg.raw g24 rf18 (fun w => by cases w)
  have rf28 := (rw27.2.2.1.trans kh14)
  have rf29 := (rw27.2.2.2.trans rf19)
  have dd30 := gSg.rawd (ci := 9) (ps := [0]) g24 rf18 (fun w => by cases w) t11 (by decide) dd20
  have t31 : ty21 x = 200 := rw27.1.trans t11
  have t32 : ty21 c3 = 76 := gSg.typ g24 sS17.1 tc3 rfl
  have s33 := gSg.rawat g24 rf18 (fun w => by cases w) t11 (by decide) eh14
  have pr34 : gNo [78, 79, 80, 81, 85, 92] ty21 := gNo.gr g24 (by decide) (gNo.sub (by decide) pr12)
  have sS35 : gSs rT 1027 ty21 [] h22 h22 := gSs.rf g24.1
  refine gs_rput rfl (by decide) rfl sS35.1 t31 nx rw27.2.1 rf28 rfl (Or.inr rfl) (fun h36 g37 nh36 mh36 kh36 zh36 eh36 fh36 => ?_)
  have G38 : gSg [76, 77, 78, 79, 80, 81, 85, 92, 200] [x] [] ty h ty21 h36 := gSg.tr (gSg.ss G26 sS35 (by decide)) g37 (by decide) (by decide) (fun x hx => Or.inr hx)
  have sS39 : gSs rT 1027 ty21 [] h36 h36 := gSs.rf g37.1
  have rf40 := Nat.lt_of_lt_of_eq rw27.2.1 nh36.symm
  have rf41 := zh36.trans rf29
  have dd42 : ∀ k, ¬ k ∈ ([1, 0] : List Nat) → h36.2.2.2.2 x k = defaultValue (gGG.2.1 9 k) := raw_dp fh36 dd30
  have s43 := (fh36 0 (by decide)).trans s33
  refine gz_s 2 (pc' := 25) (L' := [some (.ref x)]) (S' := [.int (zi 257), .ref x]) rfl ?_
  refine gs_newr 78 rfl (by decide) rfl sS39.1 (Nat.le_of_lt (Nat.lt_of_le_of_lt (gJ.cell sS39.1 t32 rfl).1 (gJ.cell sS39.1 t32 rfl).2.1)) (by omega) (by omega) rfl rfl (by show (257 : Int) ≤ _; omega) (by show _ ≤ (257 : Int); omega) (fun _ _ => gos_i (by decide) (by decide)) (fun ty44 h45 c46 g47 tc46 lc46 nc46 mc46 ec46 dc46 uc46 => ?_)
  have gac46 : h.1 ≤ c46 := by have h8 := G38.2.1; have h9 := sS39.2.1; omega
  have uq48 := uc46 uq25 (Or.inr (gNo.sub (by decide) pr34))
  have G49 : gSg [76, 77, 78, 79, 80, 81, 85, 92, 200] [x] [] ty h ty44 h45 := gSg.tr (gSg.ss G38 sS39 (by decide)) g47 (by decide) (by decide) (fun x hx => by cases hx)
  have rw50 := gSg.raw g47 rf40 (fun w => by cases w)
  have rf51 := (rw50.2.2.1.trans kh36)
  have rf52 := (rw50.2.2.2.trans rf41)
  have dd53 := gSg.rawd (ci := 9) (ps := [1, 0]) g47 rf40 (fun w => by cases w) t31 (by decide) dd42
  have t54 : ty44 x = 200 := rw50.1.trans t31
  have t55 : ty44 c3 = 76 := gSg.typ g47 sS39.1 t32 rfl
  have t56 : ty44 c23 = 77 := gSg.typ g47 sS39.1 tc23 rfl
  have s57 := gSg.rawat g47 rf40 (fun w => by cases w) t31 (by decide) s43
  have s58 := gSg.rawat g47 rf40 (fun w => by cases w) t31 (by decide) eh36
  have pr59 : gNo [79, 80, 81, 85, 92] ty44 := gNo.gr g47 (by decide) (gNo.sub (by decide) pr34)
  have sS60 : gSs rT 1027 ty44 [] h45 h45 := gSs.rf g47.1
  refine gs_rput rfl (by decide) rfl sS60.1 t54 nx rw50.2.1 rf51 rfl (Or.inr rfl) (fun h61 g62 nh61 mh61 kh61 zh61 eh61 fh61 => ?_)
  have G63 : gSg [76, 77, 78, 79, 80, 81, 85, 92, 200] [x] [] ty h ty44 h61 := gSg.tr (gSg.ss G49 sS60 (by decide)) g62 (by decide) (by decide) (fun x hx => Or.inr hx)
  have sS64 : gSs rT 1027 ty44 [] h61 h61 := gSs.rf g62.1
  have rf65 := Nat.lt_of_lt_of_eq rw50.2.1 nh61.symm
  have rf66 := zh61.trans rf52
  have dd67 : ∀ k, ¬ k ∈ ([2, 1, 0] : List Nat) → h61.2.2.2.2 x k = defaultValue (gGG.2.1 9 k) := raw_dp fh61 dd53
  have s68 := (fh61 0 (by decide)).trans s57
  have s69 := (fh61 1 (by decide)).trans s58
  refine gz_s 2 (pc' := 34) (L' := [some (.ref x)]) (S' := [.int (zi 257), .ref x]) rfl ?_
  refine gs_newr 79 rfl (by decide) rfl sS64.1 (Nat.le_of_lt (Nat.lt_of_le_of_lt (gJ.cell sS64.1 t55 rfl).1 (gJ.cell sS64.1 t55 rfl).2.1)) (by omega) (by omega) rfl rfl (by show (257 : Int) ≤ _; omega) (by show _ ≤ (257 : Int); omega) (fun _ _ => gos_i (by decide) (by decide)) (fun ty70 h71 c72 g73 tc72 lc72 nc72 mc72 ec72 dc72 uc72 => ?_)
  have gac72 : h.1 ≤ c72 := by have h8 := G63.2.1; have h9 := sS64.2.1; omega
  have uq74 := uc72 uq48 (Or.inr (gNo.sub (by decide) pr59))
  have G75 : gSg [76, 77, 78, 79, 80, 81, 85, 92, 200] [x] [] ty h ty70 h71 := gSg.tr (gSg.ss G63 sS64 (by decide)) g73 (by decide) (by decide) (fun x hx => by cases hx)
  have rw76 := gSg.raw g73 rf65 (fun w => by cases w)
  have rf77 := (rw76.2.2.1.trans kh61)
  have rf78 := (rw76.2.2.2.trans rf66)
  have dd79 := gSg.rawd (ci := 9) (ps := [2, 1, 0]) g73 rf65 (fun w => by cases w) t54 (by decide) dd67
  have t80 : ty70 x = 200 := rw76.1.trans t54
  have t81 : ty70 c3 = 76 := gSg.typ g73 sS64.1 t55 rfl
  have t82 : ty70 c23 = 77 := gSg.typ g73 sS64.1 t56 rfl
  have t83 : ty70 c46 = 78 := gSg.typ g73 sS64.1 tc46 rfl
  have s84 := gSg.rawat g73 rf65 (fun w => by cases w) t54 (by decide) s68
  have s85 := gSg.rawat g73 rf65 (fun w => by cases w) t54 (by decide) s69
  have s86 := gSg.rawat g73 rf65 (fun w => by cases w) t54 (by decide) eh61
  have pr87 : gNo [80, 81, 85, 92] ty70 := gNo.gr g73 (by decide) (gNo.sub (by decide) pr59)
  have sS88 : gSs rT 1027 ty70 [] h71 h71 := gSs.rf g73.1
  refine gs_rput rfl (by decide) rfl sS88.1 t80 nx rw76.2.1 rf77 rfl (Or.inr rfl) (fun h89 g90 nh89 mh89 kh89 zh89 eh89 fh89 => ?_)
  have G91 : gSg [76, 77, 78, 79, 80, 81, 85, 92, 200] [x] [] ty h ty70 h89 := gSg.tr (gSg.ss G75 sS88 (by decide)) g90 (by decide) (by decide) (fun x hx => Or.inr hx)
  have sS92 : gSs rT 1027 ty70 [] h89 h89 := gSs.rf g90.1
  have rf93 := Nat.lt_of_lt_of_eq rw76.2.1 nh89.symm
  have rf94 := zh89.trans rf78
  have dd95 : ∀ k, ¬ k ∈ ([3, 2, 1, 0] : List Nat) → h89.2.2.2.2 x k = defaultValue (gGG.2.1 9 k) := raw_dp fh89 dd79
  have s96 := (fh89 0 (by decide)).trans s84
  have s97 := (fh89 1 (by decide)).trans s85
  have s98 := (fh89 2 (by decide)).trans s86
  refine gz_s 2 (pc' := 43) (L' := [some (.ref x)]) (S' := [.int (zi 257), .ref x]) rfl ?_
  refine gs_newr 80 rfl (by decide) rfl sS92.1 (Nat.le_of_lt (Nat.lt_of_le_of_lt (gJ.cell sS92.1 t81 rfl).1 (gJ.cell sS92.1 t81 rfl).2.1)) (by omega) (by omega) rfl rfl (by show (257 : Int) ≤ _; omega) (by show _ ≤ (257 : Int); omega) (fun _ _ => gos_i (by decide) (by decide)) (fun ty99 h100 c101 g102 tc101 lc101 nc101 mc101 ec101 dc101 uc101 => ?_)
  have gac101 : h.1 ≤ c101 := by have h8 := G91.2.1; have h9 := sS92.2.1; omega
  have uq103 := uc101 uq74 (Or.inr (gNo.sub (by decide) pr87))
  have G104 : gSg [76, 77, 78, 79, 80, 81, 85, 92, 200] [x] [] ty h ty99 h100 := gSg.tr (gSg.ss G91 sS92 (by decide)) g102 (by decide) (by decide) (fun x hx => by cases hx)
  have rw105 := gSg.raw g102 rf93 (fun w => by cases w)
  have rf106 := (rw105.2.2.1.trans kh89)
  have rf107 := (rw105.2.2.2.trans rf94)
  have dd108 := gSg.rawd (ci := 9) (ps := [3, 2, 1, 0]) g102 rf93 (fun w => by cases w) t80 (by decide) dd95
  have t109 : ty99 x = 200 := rw105.1.trans t80
  have t110 : ty99 c3 = 76 := gSg.typ g102 sS92.1 t81 rfl
  have t111 : ty99 c23 = 77 := gSg.typ g102 sS92.1 t82 rfl
  have t112 : ty99 c46 = 78 := gSg.typ g102 sS92.1 t83 rfl
  have t113 : ty99 c72 = 79 := gSg.typ g102 sS92.1 tc72 rfl
  have s114 := gSg.rawat g102 rf93 (fun w => by cases w) t80 (by decide) s96
  have s115 := gSg.rawat g102 rf93 (fun w => by cases w) t80 (by decide) s97
  have s116 := gSg.rawat g102 rf93 (fun w => by cases w) t80 (by decide) s98
  have s117 := gSg.rawat g102 rf93 (fun w => by cases w) t80 (by decide) eh89
  have pr118 : gNo [81, 85, 92] ty99 := gNo.gr g102 (by decide) (gNo.sub (by decide) pr87)
  have sS119 : gSs rT 1027 ty99 [] h100 h100 := gSs.rf g102.1
  refine gs_rput rfl (by decide) rfl sS119.1 t109 nx rw105.2.1 rf106 rfl (Or.inr rfl) (fun h120 g121 nh120 mh120 kh120 zh120 eh120 fh120 => ?_)
  have G122 : gSg [76, 77, 78, 79, 80, 81, 85, 92, 200] [x] [] ty h ty99 h120 := gSg.tr (gSg.ss G104 sS119 (by decide)) g121 (by decide) (by decide) (fun x hx => Or.inr hx)
  have sS123 : gSs rT 1027 ty99 [] h120 h120 := gSs.rf g121.1
  have rf124 := Nat.lt_of_lt_of_eq rw105.2.1 nh120.symm
  have rf125 := zh120.trans rf107
  have dd126 : ∀ k, ¬ k ∈ ([5, 3, 2, 1, 0] : List Nat) → h120.2.2.2.2 x k = defaultValue (gGG.2.1 9 k) := raw_dp fh120 dd108
  have s127 := (fh120 0 (by decide)).trans s114
  have s128 := (fh120 1 (by decide)).trans s115
  have s129 := (fh120 2 (by decide)).trans s116
  have s130 := (fh120 3 (by decide)).trans s117
  refine gz_s 2 (pc' := 52) (L' := [some (.ref x)]) (S' := [.int (zi 257), .ref x]) rfl ?_
  refine gs_newr 81 rfl (by decide) rfl sS123.1 (Nat.le_of_lt (Nat.lt_of_le_of_lt (gJ.cell sS123.1 t110 rfl).1 (gJ.cell sS123.1 t110 rfl).2.1)) (by omega) (by omega) rfl rfl (by show (257 : Int) ≤ _; omega) (by show _ ≤ (257 : Int); omega) (fun _ _ => gos_i (by decide) (by decide)) (fun ty131 h132 c133 g134 tc133 lc133 nc133 mc133 ec133 dc133 uc133 => ?_)
  have gac133 : h.1 ≤ c133 := by have h8 := G122.2.1; have h9 := sS123.2.1; omega
  have uq135 := uc133 uq103 (Or.inr (gNo.sub (by decide) pr118))
  have G136 : gSg [76, 77, 78, 79, 80, 81, 85, 92, 200] [x] [] ty h ty131 h132 := gSg.tr (gSg.ss G122 sS123 (by decide)) g134 (by decide) (by decide) (fun x hx => by cases hx)
  have rw137 := gSg.raw g134 rf124 (fun w => by cases w)
  have rf138 := (rw137.2.2.1.trans kh120)
  have rf139 := (rw137.2.2.2.trans rf125)
  have dd140 := gSg.rawd (ci := 9) (ps := [5, 3, 2, 1, 0]) g134 rf124 (fun w => by cases w) t109 (by decide) dd126
  have t141 : ty131 x = 200 := rw137.1.trans t109
  have t142 : ty131 c3 = 76 := gSg.typ g134 sS123.1 t110 rfl
  have t143 : ty131 c23 = 77 := gSg.typ g134 sS123.1 t111 rfl
  have t144 : ty131 c46 = 78 := gSg.typ g134 sS123.1 t112 rfl
  have t145 : ty131 c72 = 79 := gSg.typ g134 sS123.1 t113 rfl
  have t146 : ty131 c101 = 80 := gSg.typ g134 sS123.1 tc101 rfl
  have s147 := gSg.rawat g134 rf124 (fun w => by cases w) t109 (by decide) s127
  have s148 := gSg.rawat g134 rf124 (fun w => by cases w) t109 (by decide) s128
  have s149 := gSg.rawat g134 rf124 (fun w => by cases w) t109 (by decide) s129
  have s150 := gSg.rawat g134 rf124 (fun w => by cases w) t109 (by decide) s130
  have s151 := gSg.rawat g134 rf124 (fun w => by cases w) t109 (by decide) eh120
  have pr152 : gNo [85, 92] ty131 := gNo.gr g134 (by decide) (gNo.sub (by decide) pr118)
  have sS153 : gSs rT 1027 ty131 [] h132 h132 := gSs.rf g134.1
  refine gs_rput rfl (by decide) rfl sS153.1 t141 nx rw137.2.1 rf138 rfl (Or.inr rfl) (fun h154 g155 nh154 mh154 kh154 zh154 eh154 fh154 => ?_)
  have G156 : gSg [76, 77, 78, 79, 80, 81, 85, 92, 200] [x] [] ty h ty131 h154 := gSg.tr (gSg.ss G136 sS153 (by decide)) g155 (by decide) (by decide) (fun x hx => Or.inr hx)
  have sS157 : gSs rT 1027 ty131 [] h154 h154 := gSs.rf g155.1
  have rf158 := Nat.lt_of_lt_of_eq rw137.2.1 nh154.symm
  have rf159 := zh154.trans rf139
  have dd160 : ∀ k, ¬ k ∈ ([6, 5, 3, 2, 1, 0] : List Nat) → h154.2.2.2.2 x k = defaultValue (gGG.2.1 9 k) := raw_dp fh154 dd140
  have s161 := (fh154 0 (by decide)).trans s147
  have s162 := (fh154 1 (by decide)).trans s148
  have s163 := (fh154 2 (by decide)).trans s149
  have s164 := (fh154 3 (by decide)).trans s150
  have s165 := (fh154 5 (by decide)).trans s151
  refine gz_s 2 (pc' := 61) (L' := [some (.ref x)]) (S' := [.int (zi 257), .ref x]) rfl ?_
  refine gs_newr 85 rfl (by decide) rfl sS157.1 (Nat.le_of_lt (Nat.lt_of_le_of_lt (gJ.cell sS157.1 t142 rfl).1 (gJ.cell sS157.1 t142 rfl).2.1)) (by omega) (by omega) rfl rfl (by show (257 : Int) ≤ _; omega) (by show _ ≤ (257 : Int); omega) (fun _ _ => gos_i (by decide) (by decide)) (fun ty166 h167 c168 g169 tc168 lc168 nc168 mc168 ec168 dc168 uc168 => ?_)
  have gac168 : h.1 ≤ c168 := by have h8 := G156.2.1; have h9 := sS157.2.1; omega
  have uq170 := uc168 uq135 (Or.inr (gNo.sub (by decide) pr152))
  have G171 : gSg [76, 77, 78, 79, 80, 81, 85, 92, 200] [x] [] ty h ty166 h167 := gSg.tr (gSg.ss G156 sS157 (by decide)) g169 (by decide) (by decide) (fun x hx => by cases hx)
  have rw172 := gSg.raw g169 rf158 (fun w => by cases w)
  have rf173 := (rw172.2.2.1.trans kh154)
  have rf174 := (rw172.2.2.2.trans rf159)
  have dd175 := gSg.rawd (ci := 9) (ps := [6, 5, 3, 2, 1, 0]) g169 rf158 (fun w => by cases w) t141 (by decide) dd160
  have t176 : ty166 x = 200 := rw172.1.trans t141
  have t177 : ty166 c3 = 76 := gSg.typ g169 sS157.1 t142 rfl
  have t178 : ty166 c23 = 77 := gSg.typ g169 sS157.1 t143 rfl
  have t179 : ty166 c46 = 78 := gSg.typ g169 sS157.1 t144 rfl
  have t180 : ty166 c72 = 79 := gSg.typ g169 sS157.1 t145 rfl
  have t181 : ty166 c101 = 80 := gSg.typ g169 sS157.1 t146 rfl
  have t182 : ty166 c133 = 81 := gSg.typ g169 sS157.1 tc133 rfl
  have s183 := gSg.rawat g169 rf158 (fun w => by cases w) t141 (by decide) s161
  have s184 := gSg.rawat g169 rf158 (fun w => by cases w) t141 (by decide) s162
  have s185 := gSg.rawat g169 rf158 (fun w => by cases w) t141 (by decide) s163
  have s186 := gSg.rawat g169 rf158 (fun w => by cases w) t141 (by decide) s164
  have s187 := gSg.rawat g169 rf158 (fun w => by cases w) t141 (by decide) s165
  have s188 := gSg.rawat g169 rf158 (fun w => by cases w) t141 (by decide) eh154
  have pr189 : gNo [92] ty166 := gNo.gr g169 (by decide) (gNo.sub (by decide) pr152)
  have sS190 : gSs rT 1027 ty166 [] h167 h167 := gSs.rf g169.1
  refine gs_rput rfl (by decide) rfl sS190.1 t176 nx rw172.2.1 rf173 rfl (Or.inr rfl) (fun h191 g192 nh191 mh191 kh191 zh191 eh191 fh191 => ?_)
  have G193 : gSg [76, 77, 78, 79, 80, 81, 85, 92, 200] [x] [] ty h ty166 h191 := gSg.tr (gSg.ss G171 sS190 (by decide)) g192 (by decide) (by decide) (fun x hx => Or.inr hx)
  have sS194 : gSs rT 1027 ty166 [] h191 h191 := gSs.rf g192.1
  have rf195 := Nat.lt_of_lt_of_eq rw172.2.1 nh191.symm
  have rf196 := zh191.trans rf174
  have dd197 : ∀ k, ¬ k ∈ ([7, 6, 5, 3, 2, 1, 0] : List Nat) → h191.2.2.2.2 x k = defaultValue (gGG.2.1 9 k) := raw_dp fh191 dd175
  have s198 := (fh191 0 (by decide)).trans s183
  have s199 := (fh191 1 (by decide)).trans s184
  have s200 := (fh191 2 (by decide)).trans s185
  have s201 := (fh191 3 (by decide)).trans s186
  have s202 := (fh191 5 (by decide)).trans s187
  have s203 := (fh191 6 (by decide)).trans s188
  obtain ⟨ty205, g204, tg204, ug204⟩ := gSg.adx 92 sS194.1 t176 nx rf195 rfl kh191 (by show (0 : Nat) ≤ _; have h9 := rf196; omega) (by show _ ≤ (0 : Nat); have h9 := rf196; omega) (fun ty9 w9 k hk => ad92 (by rw [s198]; exact ⟨c3, rfl, w9 c3 _ t177 (by decide)⟩) (by rw [s199]; exact ⟨c23, rfl, w9 c23 _ t178 (by decide)⟩) (by rw [s200]; exact ⟨c46, rfl, w9 c46 _ t179 (by decide)⟩) (by rw [s201]; exact ⟨c72, rfl, w9 c72 _ t180 (by decide)⟩) (by rw [(show h191.2.2.2.2 x 4 = .int (zi 0) from dd197 4 (by decide))]; exact ⟨0, rfl, by show (0 : Int) ≤ _; omega, by show _ ≤ (256 : Int); omega⟩) (by rw [s202]; exact ⟨c101, rfl, w9 c101 _ t181 (by decide)⟩) (by rw [s203]; exact ⟨c133, rfl, w9 c133 _ t182 (by decide)⟩) (by rw [eh191]; exact ⟨c168, rfl, w9 c168 _ tc168 (by decide)⟩) (by rw [(show h191.2.2.2.2 x 8 = .int (zi 0) from dd197 8 (by decide))]; exact ⟨0, rfl, by show (0 : Int) ≤ _; omega, by show _ ≤ (257 : Int); omega⟩) k)
  have uq206 := ug204 uq170 (Or.inr pr189)
  have G207 : gSg [76, 77, 78, 79, 80, 81, 85, 92, 200] [x] [] ty h ty205 h191 := gSg.tr (gSg.ss G193 sS194 (by decide)) g204 (by decide) (by decide) (fun x hx => Or.inr hx)
  have t208 : ty205 c3 = 76 := gSg.typ g204 sS194.1 t177 rfl
  have t209 : ty205 c23 = 77 := gSg.typ g204 sS194.1 t178 rfl
  have t210 : ty205 c46 = 78 := gSg.typ g204 sS194.1 t179 rfl
  have t211 : ty205 c72 = 79 := gSg.typ g204 sS194.1 t180 rfl
  have t212 : ty205 c101 = 80 := gSg.typ g204 sS194.1 t181 rfl
  have t213 : ty205 c133 = 81 := gSg.typ g204 sS194.1 t182 rfl
  have t214 : ty205 c168 = 85 := gSg.typ g204 sS194.1 tc168 rfl
  have sS215 : gSs rT 1027 ty205 [] h191 h191 := gSs.rf g204.1
  have G216 : gSg [76, 77, 78, 79, 80, 81, 85, 92, 200] [x] [] ty h ty205 h191 := gSg.ss G207 sS215 (by decide)
  exact gz_end (I := .return_) (len := 1) rfl (Or.inl rfl) ⟨ty205, G216, tg204, rfl, (by dsimp only; omega), (by dsimp only; omega), uq206⟩
