/-! ===== methods of the landed text (by program) ===== -/
theorem gOy.gr {nk X l : List Nat} {ty ty2 : Nat → Nat} {q : Nat} {r : gRg} {v k : Int} {h h2 : gH} (g : gSg nk X l ty h ty2 h2) (hJ : gJ rT 1027 ty h) (hT : rT q = some r) (hn : ¬ q ∈ nk) (hl : ¬ (1000 * q + 999) ∈ l) (s : gOy ty q v k h) : gOy ty2 q v k h2 := by
  obtain ⟨f, x1, x2⟩ := s
  exact ⟨f, x1.gr g hJ hT hn hl, x2⟩
set_option maxRecDepth 20000 in
set_option maxHeartbeats 4000000 in
theorem ct_Codes (d : Nat) {ty : Nat → Nat} {h : gH} (hJ : gJ rT 1027 ty h) (x : Nat) (tx : ty x = 200) (nx : 1027 ≤ x) (lx : x < h.1) (kx : h.2.2.1 x = some (.inr 2)) (zx : h.2.2.2.1 x = 0) (dx : ∀ k, h.2.2.2.2 x k = defaultValue (gGG.2.1 2 k)) (uq : gUq ty) : gz gPP gGG gcn (d + 1) gt11 0 (gent [.ref x] 1) [] h (fun q _ => ∃ ty9 : Nat → Nat, gSg [101, 102, 103, 200] [x] [] ty h ty9 q.2.2 ∧ ty9 x = 101 ∧ gfin gt11 q.1 q.2.1 = some none ∧ ((q.2.2.1 : Int) = h.1 + 2) ∧ ((q.2.2.2.1 : Int) = h.2.1 + 273)) := by
  have hS : gSs rT 1027 ty [] h h := gSs.rf hJ
  have G0 : gSg [101, 102, 103, 200] [x] [] ty h ty h := gSg.rf hJ (fun x hx => by rw [List.mem_singleton.mp hx, tx]; rfl)
  refine gz_s 1 (pc' := 1) (L' := [some (.ref x)]) (S' := [.ref x]) rfl ?_
  refine gz_obj rfl (by decide) (by omega) rfl (by decide) ?_
  refine gz_s 2 (pc' := 7) (L' := [some (.ref x)]) (S' := [.int (zi 17), .ref x]) rfl ?_
  refine gs_newr 102 rfl (by decide) rfl hS.1 (Nat.le_of_lt (Nat.lt_of_le_of_lt nx lx)) (by omega) (by omega) rfl rfl (by show (17 : Int) ≤ _; omega) (by show _ ≤ (17 : Int); omega) (fun _ _ => gos_i (by decide) (by decide)) (fun ty1 h2 c3 g4 tc3 lc3 nc3 mc3 ec3 dc3 uc3 => ?_)
  have gac3 : h.1 ≤ c3 := by have h8 := G0.2.1; have h9 := hS.2.1; omega
  have uq5 := uc3 uq (Or.inl (by decide))
  have G6 : gSg [101, 102, 103, 200] [x] [] ty h ty1 h2 := gSg.tr (gSg.ss G0 hS (by decide)) g4 (by decide) (by decide) (fun x hx => by cases hx)
  have rw7 := gSg.raw g4 lx (fun w => by cases w)
  have rf8 := (rw7.2.2.1.trans kx)
  have rf9 := (rw7.2.2.2.trans zx)
  have t10 : ty1 x = 200 := rw7.1.trans tx
  have s11 := gSg.rawat g4 lx (fun w => by cases w) tx (by decide) (show h.2.2.2.2 x 0 = .null from dx 0)
  have s12 := gSg.rawat g4 lx (fun w => by cases w) tx (by decide) (show h.2.2.2.2 x 1 = .null from dx 1)
  have sS13 : gSs rT 1027 ty1 [] h2 h2 := gSs.rf g4.1
  refine gs_rput rfl (by decide) rfl sS13.1 t10 nx rw7.2.1 rf8 rfl (Or.inr rfl) (fun h14 g15 nh14 mh14 kh14 zh14 eh14 fh14 => ?_)
  have G16 : gSg [101, 102, 103, 200] [x] [] ty h ty1 h14 := gSg.tr (gSg.ss G6 sS13 (by decide)) g15 (by decide) (by decide) (fun x hx => Or.inr hx)
  have sS17 : gSs rT 1027 ty1 [] h14 h14 := gSs.rf g15.1
  have rf18 := Nat.lt_of_lt_of_eq rw7.2.1 nh14.symm
  have rf19 := zh14.trans rf9
  have s20 := (fh14 1 (by decide)).trans s12
  refine gz_s 2 (pc' := 16) (L' := [some (.ref x)]) (S' := [.int (zi 256), .ref x]) rfl ?_
  refine gs_newr 103 rfl (by decide) rfl sS17.1 (Nat.le_of_lt (Nat.lt_of_le_of_lt (gJ.cell sS17.1 tc3 rfl).1 (gJ.cell sS17.1 tc3 rfl).2.1)) (by omega) (by omega) rfl rfl (by show (256 : Int) ≤ _; omega) (by show _ ≤ (256 : Int); omega) (fun _ _ => gos_i (by decide) (by decide)) (fun ty21 h22 c23 g24 tc23 lc23 nc23 mc23 ec23 dc23 uc23 => ?_)
  have gac23 : h.1 ≤ c23 := by have h8 := G16.2.1; have h9 := sS17.2.1; omega
  have uq25 := uc23 uq5 (Or.inl (by decide))
  have G26 : gSg [101, 102, 103, 200] [x] [] ty h ty21 h22 := gSg.tr (gSg.ss G16 sS17 (by decide)) g24 (by decide) (by decide) (fun x hx => by cases hx)
  have rw27 := gSg.raw g24 rf18 (fun w => by cases w)
  have rf28 := (rw27.2.2.1.trans kh14)
  have rf29 := (rw27.2.2.2.trans rf19)
  have t30 : ty21 x = 200 := rw27.1.trans t10
  have t31 : ty21 c3 = 102 := gSg.typ g24 sS17.1 tc3 rfl
  have s32 := gSg.rawat g24 rf18 (fun w => by cases w) t10 (by decide) s20
  have s33 := gSg.rawat g24 rf18 (fun w => by cases w) t10 (by decide) eh14
  have sS34 : gSs rT 1027 ty21 [] h22 h22 := gSs.rf g24.1
  refine gs_rput rfl (by decide) rfl sS34.1 t30 nx rw27.2.1 rf28 rfl (Or.inr rfl) (fun h35 g36 nh35 mh35 kh35 zh35 eh35 fh35 => ?_)
  have G37 : gSg [101, 102, 103, 200] [x] [] ty h ty21 h35 := gSg.tr (gSg.ss G26 sS34 (by decide)) g36 (by decide) (by decide) (fun x hx => Or.inr hx)
  have sS38 : gSs rT 1027 ty21 [] h35 h35 := gSs.rf g36.1
  have rf39 := Nat.lt_of_lt_of_eq rw27.2.1 nh35.symm
  have rf40 := zh35.trans rf29
  have s41 := (fh35 0 (by decide)).trans s33
  obtain ⟨ty43, g42, tg42, ug42⟩ := gSg.adx 101 sS38.1 t30 nx rf39 rfl kh35 (by show (0 : Nat) ≤ _; have h9 := rf40; omega) (by show _ ≤ (0 : Nat); have h9 := rf40; omega) (fun ty9 w9 k hk => ad101 (by rw [s41]; exact ⟨c3, rfl, w9 c3 _ t31 (by decide)⟩) (by rw [eh35]; exact ⟨c23, rfl, w9 c23 _ tc23 (by decide)⟩) k)
  have uq44 := ug42 uq25 (Or.inl (by decide))
  have G45 : gSg [101, 102, 103, 200] [x] [] ty h ty43 h35 := gSg.tr (gSg.ss G37 sS38 (by decide)) g42 (by decide) (by decide) (fun x hx => Or.inr hx)
  have t46 : ty43 c3 = 102 := gSg.typ g42 sS38.1 t31 rfl
  have t47 : ty43 c23 = 103 := gSg.typ g42 sS38.1 tc23 rfl
  have sS48 : gSs rT 1027 ty43 [] h35 h35 := gSs.rf g42.1
  have G49 : gSg [101, 102, 103, 200] [x] [] ty h ty43 h35 := gSg.ss G45 sS48 (by decide)
  exact gz_end (I := .return_) (len := 1) rfl (Or.inl rfl) ⟨ty43, G49, tg42, rfl, (by dsimp only; omega), (by dsimp only; omega)⟩
set_option maxRecDepth 20000 in
set_option maxHeartbeats 4000000 in
theorem ct_Bits (d : Nat) {ty : Nat → Nat} {h : gH} (hJ : gJ rT 1027 ty h) (x : Nat) (tx : ty x = 200) (nx : 1027 ≤ x) (lx : x < h.1) (kx : h.2.2.1 x = some (.inr 1)) (zx : h.2.2.2.1 x = 0) (dx : ∀ k, h.2.2.2.2 x k = defaultValue (gGG.2.1 1 k)) (s : Nat) (ts : ty s = 51) (no0 : gNo [67] ty) (uq : gUq ty) : gz gPP gGG gcn (d + 1) gt10 0 (gent [.ref x, .ref s] 2) [] h (fun q _ => ∃ ty9 : Nat → Nat, gSg [67, 200] [x] [] ty h ty9 q.2.2 ∧ ty9 x = 67 ∧ gfin gt10 q.1 q.2.1 = some none ∧ ((q.2.2.1 : Int) = h.1 + 0) ∧ ((q.2.2.2.1 : Int) = h.2.1 + 0) ∧ gUq ty9) := by
  have hS : gSs rT 1027 ty [] h h := gSs.rf hJ
  have G0 : gSg [67, 200] [x] [] ty h ty h := gSg.rf hJ (fun x hx => by rw [List.mem_singleton.mp hx, tx]; rfl)
  refine gz_s 1 (pc' := 1) (L' := [some (.ref x), some (.ref s)]) (S' := [.ref x]) rfl ?_
  refine gz_obj rfl (by decide) (by omega) rfl (by decide) ?_
  refine gz_s 2 (pc' := 6) (L' := [some (.ref x), some (.ref s)]) (S' := [.ref s, .ref x]) rfl ?_
  refine gs_rput rfl (by decide) rfl hS.1 tx nx lx kx rfl (Or.inr rfl) (fun h1 g2 nh1 mh1 kh1 zh1 eh1 fh1 => ?_)
  have G3 : gSg [67, 200] [x] [] ty h ty h1 := gSg.tr (gSg.ss G0 hS (by decide)) g2 (by decide) (by decide) (fun x hx => Or.inr hx)
  have sS4 : gSs rT 1027 ty [] h1 h1 := gSs.rf g2.1
  have rf5 := Nat.lt_of_lt_of_eq lx nh1.symm
  have rf6 := zh1.trans zx
  have s7 := (fh1 1 (by decide)).trans (show h.2.2.2.2 x 1 = .int (zi 0) from dx 1)
  have s8 := (fh1 2 (by decide)).trans (show h.2.2.2.2 x 2 = .int (zi 0) from dx 2)
  have s9 := (fh1 3 (by decide)).trans (show h.2.2.2.2 x 3 = .int (zi 0) from dx 3)
  obtain ⟨ty11, g10, tg10, ug10⟩ := gSg.adx 67 sS4.1 tx nx rf5 rfl kh1 (by show (0 : Nat) ≤ _; have h9 := rf6; omega) (by show _ ≤ (0 : Nat); have h9 := rf6; omega) (fun ty9 w9 k hk => ad67 (by rw [eh1]; exact ⟨s, rfl, w9 s _ ts (by decide)⟩) (by rw [s7]; exact ⟨0, rfl, by show (0 : Int) ≤ _; omega, by show _ ≤ (5000 : Int); omega⟩) (by rw [s8]; exact ⟨0, rfl, by show (0 : Int) ≤ _; omega, by show _ ≤ (255 : Int); omega⟩) (by rw [s9]; exact ⟨0, rfl, by show (0 : Int) ≤ _; omega, by show _ ≤ (8 : Int); omega⟩) k)
  have uq12 := ug10 uq (Or.inr no0)
  have G13 : gSg [67, 200] [x] [] ty h ty11 h1 := gSg.tr (gSg.ss G3 sS4 (by decide)) g10 (by decide) (by decide) (fun x hx => Or.inr hx)
  have t14 : ty11 s = 51 := gSg.typ g10 sS4.1 ts rfl
  have sS15 : gSs rT 1027 ty11 [] h1 h1 := gSs.rf g10.1
  have G16 : gSg [67, 200] [x] [] ty h ty11 h1 := gSg.ss G13 sS15 (by decide)
  exact gz_end (I := .return_) (len := 1) rfl (Or.inl rfl) ⟨ty11, G16, tg10, rfl, (by dsimp only; omega), (by dsimp only; omega), uq12⟩
