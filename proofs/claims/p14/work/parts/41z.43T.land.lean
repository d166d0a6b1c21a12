/-! ===== methods of the landed text (by program) ===== -/
theorem gcst {a b : Nat} {z : Int} (h : a = b) (e : (b : Int) = z) : (a : Int) = z := by rw [h]; exact e
theorem gSg.rawd {nk X l ps : List Nat} {ty ty2 : Nat → Nat} {h h2 : gH} {c ci : Nat} (g : gSg nk X l ty h ty2 h2) (hc : c < h.1) (hX : ¬ c ∈ X) (ht : ty c = 200) (hn : ∀ x ∈ l, x < 200000) (d : ∀ k, ¬ k ∈ ps → h.2.2.2.2 c k = defaultValue (gGG.2.1 ci k)) : ∀ k, ¬ k ∈ ps → h2.2.2.2.2 c k = defaultValue (gGG.2.1 ci k) := fun k hk => g.rawat hc hX ht hn (d k hk)
theorem raw_dp {ps : List Nat} {h h' : gH} {a k : Nat} {D : Nat → Value} (f : ∀ j, ¬ j = k → h'.2.2.2.2 a j = h.2.2.2.2 a j) (d : ∀ j, ¬ j ∈ ps → h.2.2.2.2 a j = D j) : ∀ j, ¬ j ∈ k :: ps → h'.2.2.2.2 a j = D j := fun j hj => (f j (fun e => hj (by rw [e]; exact List.mem_cons_self))).trans (d j (fun w => hj (List.mem_cons_of_mem _ w)))
theorem gFr.rawd {l ps : List Nat} {ty : Nat → Nat} {h h' : gH} {a : Nat} {D : Nat → Value} (g : gFr rT ty l h h') (ht : ty a = 200) (hn : ∀ x ∈ l, x < 200000) (d : ∀ j, ¬ j ∈ ps → h.2.2.2.2 a j = D j) : ∀ j, ¬ j ∈ ps → h'.2.2.2.2 a j = D j := fun j hj => (g.2.2.2.2 a j (fun w => by
  have := hn _ w
  rw [ht] at this
  have e2 : gpl rT 200 j = 1000 * 200 + j := rfl
  omega)).trans (d j hj)
theorem gOy.gr {nk X l : List Nat} {ty ty2 : Nat → Nat} {q : Nat} {r : gRg} {v k : Int} {h h2 : gH} (g : gSg nk X l ty h ty2 h2) (hJ : gJ rT 1027 ty h) (hT : rT q = some r) (hn : ¬ q ∈ nk) (hl : ¬ (1000 * q + 999) ∈ l) (s : gOy ty q v k h) : gOy ty2 q v k h2 := by
  obtain ⟨f, x1, x2⟩ := s
  exact ⟨f, x1.gr g hJ hT hn hl, x2⟩
set_option maxRecDepth 20000 in
set_option maxHeartbeats 4000000 in
theorem ct_Codes (d : Nat) {ty : Nat → Nat} {h : gH} (hJ : gJ rT 1027 ty h) (x : Nat) (tx : ty x = 200) (nx : 1027 ≤ x) (lx : x < h.1) (kx : h.2.2.1 x = some (.inr 2)) (zx : h.2.2.2.1 x = 0) (dx : ∀ k, h.2.2.2.2 x k = defaultValue (gGG.2.1 2 k)) (uq : gUq ty) : gz gPP gGG gcn (d + 1) gt11 0 (gent [.ref x] 1) [] h (fun q _ => ∃ ty9 : Nat → Nat, gSg [101, 102, 103, 200] [x] [] ty h ty9 q.2.2 ∧ ty9 x = 101 ∧ gfin gt11 q.1 q.2.1 = some none ∧ ((q.2.2.1 : Int) = h.1 + 2) ∧ ((q.2.2.2.1 : Int) = h.2.1 + 273)) := by
  have hS : gSs rT 1027 ty [] h h := gSs.rf hJ
  have G0 : gSg [101, 102, 103, 200] [x] [] ty h ty h := gSg.rf hJ (fun x hx => by rw [List.mem_singleton.mp hx, tx]; rfl)
  refine gz_s 1 (pc' := 1) (L' := [some (.ref x)]) (S' := [.ref x]) rfl ?_
  refine gz_obj rfl (by decide) (by omega) rfl (by decide) ?_
  refine gz_s 2 (pc' := 7) (L' := [some (.ref x)]) (S' := [.int (zi 17), .ref x]) rfl ?_
  refine gs_newr 102 rfl (by decide) rfl hS.1 (Nat.le_of_lt (Nat.lt_of_le_of_lt nx lx)) (by omega) (by omega) rfl rfl (by show (17 : Int) ≤ _; omega) (by show _ ≤ (17 : Int); omega) (fun _ _ => gos_i (by decide) (by decide)) (fun ty1 h2 c3 g4 tc3 lc3 nc3 mc3 ec3 dc3 uc3 => ?_)
  have gac3 : h.1 ≤ c3 := by have h8 := G0.2.1; have h9 := hS.2.1; omega
  have uq5 := uc3 uq (Or.inl (by decide))
  have G6 : gSg [101, 102, 103, 200] [x] [] ty h ty1 h2 := gSg.tr (gSg.ss G0 hS (by decide)) g4 (by decide) (by decide) (fun x hx => by cases hx)
  have rw7 := gSg.raw g4 lx (fun w => by cases w)
  have rf8 := (rw7.2.2.1.trans kx)
  have rf9 := (rw7.2.2.2.trans zx)
  have dd10 := gSg.rawd (ci := 2) (ps := []) g4 lx (fun w => by cases w) tx (by decide) (fun k _ => dx k)
  have t11 : ty1 x = 200 := rw7.1.trans tx
  have sS12 : gSs rT 1027 ty1 [] h2 h2 := gSs.rf g4.1
  refine gs_rput rfl (by decide) rfl sS12.1 t11 nx rw7.2.1 rf8 rfl (Or.inr rfl) (fun h13 g14 nh13 mh13 kh13 zh13 eh13 fh13 => ?_)
  have G15 : gSg [101, 102, 103, 200] [x] [] ty h ty1 h13 := gSg.tr (gSg.ss G6 sS12 (by decide)) g14 (by decide) (by decide) (fun x hx => Or.inr hx)
  have sS16 : gSs rT 1027 ty1 [] h13 h13 := gSs.rf g14.1
  have rf17 := Nat.lt_of_lt_of_eq rw7.2.1 nh13.symm
  have rf18 := zh13.trans rf9
  have dd19 : ∀ k, ¬ k ∈ ([0] : List Nat) → h13.2.2.2.2 x k = defaultValue (gGG.2.1 2 k) := raw_dp fh13 dd10
  refine gz_s 2 (pc' := 16) (L' := [some (.ref x)]) (S' := [.int (zi 256), .ref x]) rfl ?_
  refine gs_newr 103 rfl (by decide) rfl sS16.1 (Nat.le_of_lt (Nat.lt_of_le_of_lt (gJ.cell sS16.1 tc3 rfl).1 (gJ.cell sS16.1 tc3 rfl).2.1)) (by omega) (by omega) rfl rfl (by show (256 : Int) ≤ _; omega) (by show _ ≤ (256 : Int); omega) (fun _ _ => gos_i (by decide) (by decide)) (fun ty20 h21 c22 g23 tc22 lc22 nc22 mc22 ec22 dc22 uc22 => ?_)
  have gac22 : h.1 ≤ c22 := by have h8 := G15.2.1; have h9 := sS16.2.1; omega
  have uq24 := uc22 uq5 (Or.inl (by decide))
  have G25 : gSg [101, 102, 103, 200] [x] [] ty h ty20 h21 := gSg.tr (gSg.ss G15 sS16 (by decide)) g23 (by decide) (by decide) (fun x hx => by cases hx)
  have rw26 := gSg.raw g23 rf17 (fun w => by cases w)
  have rf27 := (rw26.2.2.1.trans kh13)
  have rf28 := (rw26.2.2.2.trans rf18)
  have dd29 := gSg.rawd (ci := 2) (ps := [0]) g23 rf17 (fun w => by cases w) t11 (by decide) dd19
  have t30 : ty20 x = 200 := rw26.1.trans t11
  have t31 : ty20 c3 = 102 := gSg.typ g23 sS16.1 tc3 rfl
  have s32 := gSg.rawat g23 rf17 (fun w => by cases w) t11 (by decide) eh13
  have sS33 : gSs rT 1027 ty20 [] h21 h21 := gSs.rf g23.1
  refine gs_rput rfl (by decide) rfl sS33.1 t30 nx rw26.2.1 rf27 rfl (Or.inr rfl) (fun h34 g35 nh34 mh34 kh34 zh34 eh34 fh34 => ?_)
  have G36 : gSg [101, 102, 103, 200] [x] [] ty h ty20 h34 := gSg.tr (gSg.ss G25 sS33 (by decide)) g35 (by decide) (by decide) (fun x hx => Or.inr hx)
  have sS37 : gSs rT 1027 ty20 [] h34 h34 := gSs.rf g35.1
  have rf38 := Nat.lt_of_lt_of_eq rw26.2.1 nh34.symm
  have rf39 := zh34.trans rf28
  have dd40 : ∀ k, ¬ k ∈ ([1, 0] : List Nat) → h34.2.2.2.2 x k = defaultValue (gGG.2.1 2 k) := raw_dp fh34 dd29
  have s41 := (fh34 0 (by decide)).trans s32
  obtain ⟨ty43, g42, tg42, ug42⟩ := gSg.adx 101 sS37.1 t30 nx rf38 rfl kh34 (by show (0 : Nat) ≤ _; have h9 := rf39; omega) (by show _ ≤ (0 : Nat); have h9 := rf39; omega) (fun ty9 w9 k hk => ad101 (by rw [s41]; exact ⟨c3, rfl, w9 c3 _ t31 (by decide)⟩) (by rw [eh34]; exact ⟨c22, rfl, w9 c22 _ tc22 (by decide)⟩) k)
  have uq44 := ug42 uq24 (Or.inl (by decide))
  have G45 : gSg [101, 102, 103, 200] [x] [] ty h ty43 h34 := gSg.tr (gSg.ss G36 sS37 (by decide)) g42 (by decide) (by decide) (fun x hx => Or.inr hx)
  have t46 : ty43 c3 = 102 := gSg.typ g42 sS37.1 t31 rfl
  have t47 : ty43 c22 = 103 := gSg.typ g42 sS37.1 tc22 rfl
  have sS48 : gSs rT 1027 ty43 [] h34 h34 := gSs.rf g42.1
  have G49 : gSg [101, 102, 103, 200] [x] [] ty h ty43 h34 := gSg.ss G45 sS48 (by decide)
  exact gz_end (I := .return_) (len := 1) rfl (Or.inl rfl) ⟨ty43, G49, tg42, rfl, (by dsimp only; omega), (by dsimp only; omega)⟩
set_option maxRecDepth 20000 in
set_option maxHeartbeats 4000000 in
theorem ct_Bits (d : Nat) {ty : Nat → Nat} {h : gH} (hJ : gJ rT 1027 ty h) (x : Nat) (tx : ty x = 200) (nx : 1027 ≤ x) (lx : x < h.1) (kx : h.2.2.1 x = some (.inr 1)) (zx : h.2.2.2.1 x = 0) (dx : ∀ k, h.2.2.2.2 x k = defaultValue (gGG.2.1 1 k)) (s : Nat) (ts : ty s = 51) (no0 : gNo [67] ty) (uq : gUq ty) : gz gPP gGG gcn (d + 1) gt10 0 (gent [.ref x, .ref s] 2) [] h (fun q _ => ∃ ty9 : Nat → Nat, gSg [67, 200] [x] [] ty h ty9 q.2.2 ∧ ty9 x = 67 ∧ gfin gt10 q.1 q.2.1 = some none ∧ ((q.2.2.1 : Int) = h.1 + 0) ∧ ((q.2.2.2.1 : Int) = h.2.1 + 0) ∧ gUq ty9) := by
  have hS : gSs rT 1027 ty [] h h := gSs.rf hJ
  have G0 : gSg [67, 200] [x] [] ty h ty h := gSg.rf hJ (fun x hx => by rw [List.mem_singleton.mp hx, tx]; rfl)
  refine gz_s 1 (pc' := 1) (L' := [some (.ref x), some (.ref s)]) (S' := [.ref x]) rfl ?_
  refine gz_obj rfl (by decide) (by omega) rfl (by decide) ?_
  refine gz_s 2 (pc' := 6) (L' := [some (.ref x), some (.ref s)]) (S' := [.ref s, .ref x]) rfl ?_
  refine gs_rput rfl (by decide) rfl hS.1 tx nx lx kx rfl (Or.inr rfl) (fun h1 g2 nh1 mh1 kh1 zh1 eh1 fh1 => ?_)
  have G3 : gSg [67, 200] [x] [] ty h ty h1 := gSg.tr (gSg.ss G0 hS (by decide)) g2 (by decide) (by decide) (fun x hx => Or.inr hx)
  have sS4 : gSs rT 1027 ty [] h1 h1 := gSs.rf g2.1
  have rf5 := Nat.lt_of_lt_of_eq lx nh1.symm
  have rf6 := zh1.trans zx
  have dd7 : ∀ k, ¬ k ∈ ([0] : List Nat) → h1.2.2.2.2 x k = defaultValue (gGG.2.1 1 k) := raw_dp fh1 (fun k _ => dx k)
  obtain ⟨ty9, g8, tg8, ug8⟩ := gSg.adx 67 sS4.1 tx nx rf5 rfl kh1 (by show (0 : Nat) ≤ _; have h9 := rf6; omega) (by show _ ≤ (0 : Nat); have h9 := rf6; omega) (fun ty9 w9 k hk => ad67 (by rw [eh1]; exact ⟨s, rfl, w9 s _ ts (by decide)⟩) (by rw [(show h1.2.2.2.2 x 1 = .int (zi 0) from dd7 1 (by decide))]; exact ⟨0, rfl, by show (0 : Int) ≤ _; omega, by show _ ≤ (5000 : Int); omega⟩) (by rw [(show h1.2.2.2.2 x 2 = .int (zi 0) from dd7 2 (by decide))]; exact ⟨0, rfl, by show (0 : Int) ≤ _; omega, by show _ ≤ (255 : Int); omega⟩) (by rw [(show h1.2.2.2.2 x 3 = .int (zi 0) from dd7 3 (by decide))]; exact ⟨0, rfl, by show (0 : Int) ≤ _; omega, by show _ ≤ (8 : Int); omega⟩) k)
  have uq10 := ug8 uq (Or.inr no0)
  have G11 : gSg [67, 200] [x] [] ty h ty9 h1 := gSg.tr (gSg.ss G3 sS4 (by decide)) g8 (by decide) (by decide) (fun x hx => Or.inr hx)
  have t12 : ty9 s = 51 := gSg.typ g8 sS4.1 ts rfl
  have sS13 : gSs rT 1027 ty9 [] h1 h1 := gSs.rf g8.1
  have G14 : gSg [67, 200] [x] [] ty h ty9 h1 := gSg.ss G11 sS13 (by decide)
  exact gz_end (I := .return_) (len := 1) rfl (Or.inl rfl) ⟨ty9, G14, tg8, rfl, (by dsimp only; omega), (by dsimp only; omega), uq10⟩
