/-! ===== methods of the landed text (by program) ===== -/
theorem zl_sh26 : ∀ k : Fin 256, zl (k.val : Int) <<< ((zi 26).toInt64 &&& 63) = zl ((k.val : Int) * 67108864) := by decide +kernel
section GLS
variable {P : Nat → Option gMt} {G : gG} {cn : Nat → Option Nat} {d : Nat} {t : gMt} {pc : Nat} {L : gL} {S : List Value} {h : gH} {F : gR → gL → Prop}
theorem gy_lsh26 {x : Int} (hlk : glk pc (gmC t) = some (.lshl, 1)) (hx : ¬ pc ∈ gmE t) (ha : 0 ≤ x ∧ x < 256) (k : gz P G cn d t (pc + 1) L (.long (zl (x * 67108864)) :: S) h F) : gz P G cn d t pc L (.int (zi 26) :: .long (zl x) :: S) h F := by
  obtain ⟨n, rfl⟩ := Int.eq_ofNat_of_zero_le ha.1
  refine gz_0 hlk (fun q => q.elim (fun z => by cases z) hx) rfl ?_ k
  simp only [gst0, gLI]
  rw [if_pos trivial, zl_sh26 ⟨n, by omega⟩]
end GLS
theorem zdv {a m : Int} (ha : 0 ≤ a ∧ a ≤ 137438953472) (hm : 1 ≤ m ∧ m ≤ 255) : 0 ≤ (a + m * 67108864 / 2) / (m * 67108864) ∧ (a + m * 67108864 / 2) / (m * 67108864) ≤ 2048 := by
  refine ⟨Int.ediv_nonneg (by omega) (by omega), ?_⟩
  exact Int.le_of_lt_add_one (Int.ediv_lt_of_lt_mul (by omega) (by omega))
def gLc (ty : Nat → Nat) (p a k ln lw : Int) (h : gH) : Prop := ∀ j : Int, a ≤ j → j < k → ∀ (c : Nat) (z : Int), ty c = 73 → h.2.2.2.2 c (p + j).toNat = .int (zi z) → -2147483648 ≤ z → z ≤ 2147483647 → (if z < 0 then -z else z) / 2 ^ lw.toNat = 1 → j ≤ ln
theorem gLc.fr {ty : Nat → Nat} {p a k ln lw : Int} {h h' : gH} {l : List Nat} (g : gFr rT ty l h h') (hl : ∀ x ∈ ([73999] : List Nat), ¬ x ∈ l) (s : gLc ty p a k ln lw h) : gLc ty p a k ln lw h' := fun j h1 h2 c z hc e => s j h1 h2 c z hc ((g.2.2.2.2 c _ (by rw [hc]; exact hl _ (List.mem_singleton.mpr rfl))).symm.trans e)
theorem gLc.pt {ty : Nat → Nat} {p a k ln lw : Int} {c9 j9 q2 : Nat} {h h' : gH} (g : ∀ x n, ¬ (x = c9 ∧ n = j9) → h'.2.2.2.2 x n = h.2.2.2.2 x n) (ht : ty c9 = q2) (hq : ∀ x ∈ ([73] : List Nat), q2 ≠ x) (s : gLc ty p a k ln lw h) : gLc ty p a k ln lw h' := fun j h1 h2 c z hc e => s j h1 h2 c z hc ((g c _ (fun w => hq 73 (List.mem_singleton.mpr rfl) (by rw [← ht, ← hc, w.1]))).symm.trans e)
theorem gLc.gr {nk X l : List Nat} {ty ty2 : Nat → Nat} {p a k ln lw : Int} {h h2 : gH} (g : gSg nk X l ty h ty2 h2) (hJ : gJ rT 1027 ty h) (hn : ∀ x ∈ ([73] : List Nat), ¬ x ∈ nk) (hl : ∀ x ∈ ([73999] : List Nat), ¬ x ∈ l) (s : gLc ty p a k ln lw h) : gLc ty2 p a k ln lw h2 := fun j h1 h2 c z hc e => by
  have hc1 := g.old hc (hn _ (List.mem_singleton.mpr rfl))
  have e1 := g.at (k := (p + j).toNat) hJ hc1 rfl (hl _ (List.mem_singleton.mpr rfl)) rfl
  exact s j h1 h2 c z hc1 (e1.symm.trans e)
def gLq (ty : Nat → Nat) (p a k ln lw z9 : Int) (h : gH) : Prop := gLc ty p a k ln lw h ∧ (-2147483648 ≤ z9 ∧ z9 ≤ 2147483647) ∧ ∀ c : Nat, ty c = 73 → h.2.2.2.2 c (p + k).toNat = .int (zi z9)
theorem gLq.fr {ty : Nat → Nat} {p a k ln lw z9 : Int} {h h' : gH} {l : List Nat} (g : gFr rT ty l h h') (hl : ∀ x ∈ ([73999] : List Nat), ¬ x ∈ l) (s : gLq ty p a k ln lw z9 h) : gLq ty p a k ln lw z9 h' := ⟨s.1.fr g hl, s.2.1, fun c hc => (g.2.2.2.2 c _ (by rw [hc]; exact hl _ (List.mem_singleton.mpr rfl))).trans (s.2.2 c hc)⟩
theorem gLq.pt {ty : Nat → Nat} {p a k ln lw z9 : Int} {c9 j9 q2 : Nat} {h h' : gH} (g : ∀ x n, ¬ (x = c9 ∧ n = j9) → h'.2.2.2.2 x n = h.2.2.2.2 x n) (ht : ty c9 = q2) (hq : ∀ x ∈ ([73] : List Nat), q2 ≠ x) (s : gLq ty p a k ln lw z9 h) : gLq ty p a k ln lw z9 h' := ⟨s.1.pt g ht hq, s.2.1, fun c hc => (g c _ (fun w => hq 73 (List.mem_singleton.mpr rfl) (by rw [← ht, ← hc, w.1]))).trans (s.2.2 c hc)⟩
theorem gLq.step {ty : Nat → Nat} {p a k ln ln2 lw z9 : Int} {h : gH} (s : gLq ty p a k ln lw z9 h) (h1 : ln ≤ ln2) (h2 : (if z9 < 0 then -z9 else z9) / 2 ^ lw.toNat = 1 → k ≤ ln2) (hk : ∃ c, ty c = 73) : gLc ty p a (k + 1) ln2 lw h := by
  intro j j1 j2 c z hc e z1 z2 w
  by_cases hj : j = k
  · have e2 := s.2.2 c hc
    rw [← hj] at e2
    have e3 := gv_i e e2 (by omega) (by have := s.2.1; omega)
    rw [e3] at w
    have := h2 w
    omega
  · have := s.1 j j1 (by omega) c z hc e z1 z2 w
    omega
set_option maxRecDepth 20000 in
set_option maxHeartbeats 4000000 in
theorem cl_putSymbol0 (d : Nat) {ty : Nat → Nat} {h : gH} (hJ : gJ rT 1027 ty h) (x : Nat) (tx : ty x = 71) (kd : Int) (rkd : 0 ≤ kd ∧ kd ≤ 0) (sy : Int) (rsy : 0 ≤ sy ∧ sy ≤ 256) (sk : Nat) (esk : h.2.2.2.2 x 0 = .ref sk) (tsk : ty sk = 56) (bt : Nat) (ebt : h.2.2.2.2 sk 0 = .ref bt) (tbt : ty bt = 114) (c0 : Int) (ec0 : h.2.2.2.2 sk 1 = .int (zi c0)) (rc0 : 0 ≤ c0 ∧ c0 ≤ 499999) (h0 : Int) (eh0 : h.2.2.2.2 sk 3 = .int (zi h0)) (rh0 : 0 ≤ h0 ∧ h0 ≤ 7) (cg : Int) (ecg : h.2.2.2.2 x 11 = .int (zi cg)) (rcg : 0 ≤ cg ∧ cg ≤ 1) (pp0 : 4 * c0 + h0 + 300 ≤ 1999990) (pp1 : c0 ≤ (h.2.2.2.1 bt : Int)) (uq : gUq ty) : gz gPP gGG gcn (d + 4) gt115 0 (gent [.ref x, .int (zi kd), .int (zi sy)] 4) [] h (fun q _ => ∃ ty9 : Nat → Nat, gSg [114] [] [56000, 56001, 56002, 56003, 97999, 114999] ty h ty9 q.2.2 ∧ ∃ bt2 : Nat, True ∧ ∃ c1 h1 : Int, q.2.2.2.2.2.2 sk 0 = .ref bt2 ∧ ty9 bt2 = 114 ∧ gfin gt115 q.1 q.2.1 = some none ∧ q.2.2.2.2.2.2 sk 1 = .int (zi c1) ∧ 0 ≤ c1 ∧ c1 ≤ 500000 ∧ q.2.2.2.2.2.2 sk 3 = .int (zi h1) ∧ 0 ≤ h1 ∧ h1 ≤ 7 ∧ (4 * c1 + h1 ≤ 4 * c0 + h0 + 300) ∧ (c0 ≤ c1) ∧ (cg = 1 → (c1 = c0 ∧ h1 = h0)) ∧ (1024 * ((q.2.2.1 : Int) - h.1) ≤ (q.2.2.2.2.2.1 bt2 : Int) - h.2.2.2.1 bt) ∧ (((q.2.2.2.1 : Int) - h.2.1) ≤ 2 * ((q.2.2.2.2.2.1 bt2 : Int) - h.2.2.2.1 bt)) ∧ ((h.2.2.2.1 bt : Int) ≤ (q.2.2.2.2.2.1 bt2 : Int)) ∧ (c1 ≤ (q.2.2.2.2.2.1 bt2 : Int))) := by
  have hS : gSs rT 1027 ty [56000, 56001, 56002, 56003, 97999, 114999] h h := gSs.rf hJ
  have G0 : gSg [114] [] [56000, 56001, 56002, 56003, 97999, 114999] ty h ty h := gSg.rf hJ (fun x hx => by cases hx)
  refine gz_s 1 (pc' := 1) (L' := [some (.ref x), some (.int (zi kd)), some (.int (zi sy)), none]) (S' := [.ref x]) rfl ?_
  refine gs_gtr rfl (by decide) rfl hS.1 tx rfl rfl rfl (fun c1 ec1 tc1 => ?_)
  refine gz_s 1 (pc' := 5) (L' := [some (.ref x), some (.int (zi kd)), some (.int (zi sy)), none]) (S' := [.int (zi kd), .ref c1]) rfl ?_
  have he4 : (kd : Int) = 0 := by omega
  refine gs_aal (j := 0) (q2 := 91) rfl (by decide) hS.1 tc1 rfl rfl rfl (by decide) he4 rfl (by decide) (fun c5 ec5 tc5 => ?_)
  refine gz_s 2 (pc' := 8) (L' := [some (.ref x), some (.int (zi kd)), some (.int (zi sy)), some (.ref c5)]) (S' := [.ref x]) rfl ?_
  refine gs_gtk rfl (by decide) rfl hS.1 tx rfl rfl ecg ?_
  by_cases hc6 : (cg : Int) = 0
  · refine gy_ifT (pc' := 22) rfl (by decide) (by decide) (by omega) hc6 ?_
    refine gz_s 1 (pc' := 23) (L' := [some (.ref x), some (.int (zi kd)), some (.int (zi sy)), some (.ref c5)]) (S' := [.ref x]) rfl ?_
    refine gs_gtk rfl (by decide) rfl hS.1 tx rfl rfl esk ?_
    refine gz_s 1 (pc' := 27) (L' := [some (.ref x), some (.int (zi kd)), some (.int (zi sy)), some (.ref c5)]) (S' := [.ref c5, .ref sk]) rfl ?_
    refine gs_gtr rfl (by decide) rfl hS.1 tc5 rfl rfl rfl (fun c7 ec7 tc7 => ?_)
    refine gz_s 1 (pc' := 31) (L' := [some (.ref x), some (.int (zi kd)), some (.int (zi sy)), some (.ref c5)]) (S' := [.int (zi sy), .ref c7, .ref sk]) rfl ?_
    have hl8 : 257 ≤ h.2.2.2.1 c7 ∧ h.2.2.2.1 c7 ≤ 257 := gJ.rowl (G := gGG) hS.1 tc7 rfl
    refine gs_ald rfl (by decide) hS.1 tc7 rfl rfl rfl (by decide) (fun _ => rfl) (by omega) (by omega) (fun z9 ez9 az9 bz9 => ?_)
    refine gz_s 1 (pc' := 33) (L' := [some (.ref x), some (.int (zi kd)), some (.int (zi sy)), some (.ref c5)]) (S' := [.ref c5, .int (zi z9), .ref sk]) rfl ?_
    refine gs_gtr rfl (by decide) rfl hS.1 tc5 rfl rfl rfl (fun c10 ec10 tc10 => ?_)
    refine gz_s 1 (pc' := 37) (L' := [some (.ref x), some (.int (zi kd)), some (.int (zi sy)), some (.ref c5)]) (S' := [.int (zi sy), .ref c10, .int (zi z9), .ref sk]) rfl ?_
    have hl11 : 257 ≤ h.2.2.2.1 c10 ∧ h.2.2.2.1 c10 ≤ 257 := gJ.rowl (G := gGG) hS.1 tc10 rfl
    refine gs_ald rfl (by decide) hS.1 tc10 rfl rfl rfl (by decide) (fun _ => rfl) (by omega) (by omega) (fun z12 ez12 az12 bz12 => ?_)
    have hl13 : h.2.2.2.1 bt = h.2.2.2.1 bt := congrFun hS.2.2.2.2.1 bt
    refine gz_call rfl (by decide) rfl (by decide) (by decide) (gcal_of rfl rfl rfl (Nat.le_of_ble_eq_true rfl) (gJ.recv (G := gGG) hS.1 tsk rfl rfl)) (cl_Sink_putBits _ hS.1 sk tsk z9 (by omega) z12 (by omega) bt ebt tbt c0 ec0 (by omega) h0 eh0 (by omega) (by omega) (by omega) uq) (fun q14 _ wq14 => ?_)
    obtain ⟨pq14, oq14, hq14⟩ := q14
    obtain ⟨tyq14, xq14, cq14_0, ttq14, fq14_0, fq14_1, ecq14_0, tcq14_0, gq14, efq14_0, afq14_0, bfq14_0, efq14_1, afq14_1, bfq14_1, uq14_0, uq14_1, uq14_2, uq14_3, uq14_4, uq14_5⟩ := wq14
    dsimp only at uq14_2 uq14_3 uq14_4 uq14_5
    refine ⟨_, gq14, ?_⟩
    show gz gPP gGG gcn _ _ 41 [some (.ref x), some (.int (zi kd)), some (.int (zi sy)), some (.ref c5)] [] hq14 _
    have G15 : gSg [114] [] [56000, 56001, 56002, 56003, 97999, 114999] ty h tyq14 hq14 := gSg.tr (gSg.ss G0 hS (by decide)) xq14 (by decide) (by decide) (fun x hx => by cases hx)
    have t16 : tyq14 x = 71 := gSg.typ xq14 hS.1 tx rfl
    have t17 : tyq14 sk = 56 := gSg.typ xq14 hS.1 tsk rfl
    have t18 : tyq14 bt = 114 := gSg.typ xq14 hS.1 tbt rfl
    have hl19 : hq14.2.2.2.1 bt = h.2.2.2.1 bt := gSg.len xq14 hS.1 tbt rfl
    have t20 : tyq14 c1 = 75 := gSg.typ xq14 hS.1 tc1 rfl
    have t21 : tyq14 c5 = 91 := gSg.typ xq14 hS.1 tc5 rfl
    have t22 : tyq14 c7 = 95 := gSg.typ xq14 hS.1 tc7 rfl
    have t23 : tyq14 c10 = 96 := gSg.typ xq14 hS.1 tc10 rfl
    have s24 := gSg.at xq14 hS.1 tx rfl (by decide) esk
    have s25 := gSg.at xq14 hS.1 tx rfl (by decide) ecg
    have s26 := gSg.at xq14 hS.1 tx rfl (by decide) ec1
    have s27 := gSg.at xq14 hS.1 tc1 rfl (by decide) ec5
    have s28 := gSg.at xq14 hS.1 tc5 rfl (by decide) ec7
    have s29 := gSg.at xq14 hS.1 tc5 rfl (by decide) ec10
    have uq30 := gSg.uq xq14 uq (by decide)
    have sS31 : gSs rT 1027 tyq14 [56000, 56001, 56002, 56003, 97999, 114999] hq14 hq14 := gSs.rf xq14.1
    have G32 : gSg [114] [] [56000, 56001, 56002, 56003, 97999, 114999] ty h tyq14 hq14 := gSg.ss G15 sS31 (by decide)
    exact gz_end (I := .return_) (len := 1) rfl (Or.inl rfl) ⟨tyq14, G32, cq14_0, trivial, fq14_0, fq14_1, ecq14_0, tcq14_0, rfl, efq14_0, (by omega), (by omega), efq14_1, (by omega), (by omega), (by omega), (by omega), (by omega), (by dsimp only; omega), (by dsimp only; omega), (by dsimp only; omega), (by dsimp only; omega)⟩
  · refine gy_ifF rfl (by decide) (by decide) (by omega) hc6 ?_
    refine gz_s 2 (pc' := 16) (L' := [some (.ref x), some (.int (zi kd)), some (.int (zi sy)), some (.ref c5)]) (S' := [.int (zi sy), .ref c5]) rfl ?_
    refine gz_call rfl (by decide) rfl (by decide) (by decide) (gcal_of rfl rfl rfl (Nat.le_of_ble_eq_true rfl) (gJ.recv (G := gGG) hS.1 tc5 rfl rfl)) (cl_Suited0_countSymbol _ hS.1 c5 tc5 sy (by omega) uq) (fun q33 _ wq33 => ?_)
    obtain ⟨pq33, oq33, hq33⟩ := q33
    obtain ⟨xq33, gq33⟩ := wq33
    refine ⟨_, gq33, ?_⟩
    show gz gPP gGG gcn _ _ 19 [some (.ref x), some (.int (zi kd)), some (.int (zi sy)), some (.ref c5)] [] hq33 _
    have sq33 : gSs rT 1027 ty [56000, 56001, 56002, 56003, 97999, 114999] h hq33 := gSs.tr hS xq33 (by decide)
    have s34 := (xq33.2.2.2.2.2 x 0 (by rw [tx]; decide)).trans esk
    have s35 := (xq33.2.2.2.2.2 sk 0 (by rw [tsk]; decide)).trans ebt
    have s36 := (xq33.2.2.2.2.2 sk 1 (by rw [tsk]; decide)).trans ec0
    have s37 := (xq33.2.2.2.2.2 sk 3 (by rw [tsk]; decide)).trans eh0
    have s38 := (xq33.2.2.2.2.2 x 11 (by rw [tx]; decide)).trans ecg
    have s39 := (xq33.2.2.2.2.2 x 4 (by rw [tx]; decide)).trans ec1
    have s40 := (xq33.2.2.2.2.2 c1 0 (by rw [tc1]; decide)).trans ec5
    refine gz_s 1 (pc' := 41) (L' := [some (.ref x), some (.int (zi kd)), some (.int (zi sy)), some (.ref c5)]) (S' := []) rfl ?_
    have k41 := sq33.2.1
    have k41b := sq33.2.2.1
    have hl42 : hq33.2.2.2.1 bt = h.2.2.2.1 bt := congrFun sq33.2.2.2.2.1 bt
    have G43 : gSg [114] [] [56000, 56001, 56002, 56003, 97999, 114999] ty h ty hq33 := gSg.ss G0 sq33 (by decide)
    exact gz_end (I := .return_) (len := 1) rfl (Or.inl rfl) ⟨ty, G43, bt, trivial, c0, h0, s35, tbt, rfl, s36, (by omega), (by omega), s37, (by omega), (by omega), (by omega), (by omega), (by omega), (by dsimp only; omega), (by dsimp only; omega), (by dsimp only; omega), (by dsimp only; omega)⟩
set_option maxRecDepth 20000 in
set_option maxHeartbeats 4000000 in
theorem cl_putSymbol1 (d : Nat) {ty : Nat → Nat} {h : gH} (hJ : gJ rT 1027 ty h) (x : Nat) (tx : ty x = 71) (kd : Int) (rkd : 1 ≤ kd ∧ kd ≤ 1) (sy : Int) (rsy : 0 ≤ sy ∧ sy ≤ 256) (sk : Nat) (esk : h.2.2.2.2 x 0 = .ref sk) (tsk : ty sk = 56) (bt : Nat) (ebt : h.2.2.2.2 sk 0 = .ref bt) (tbt : ty bt = 114) (c0 : Int) (ec0 : h.2.2.2.2 sk 1 = .int (zi c0)) (rc0 : 0 ≤ c0 ∧ c0 ≤ 499999) (h0 : Int) (eh0 : h.2.2.2.2 sk 3 = .int (zi h0)) (rh0 : 0 ≤ h0 ∧ h0 ≤ 7) (cg : Int) (ecg : h.2.2.2.2 x 11 = .int (zi cg)) (rcg : 0 ≤ cg ∧ cg ≤ 1) (pp0 : 4 * c0 + h0 + 300 ≤ 1999990) (pp1 : c0 ≤ (h.2.2.2.1 bt : Int)) (uq : gUq ty) : gz gPP gGG gcn (d + 4) gt115 0 (gent [.ref x, .int (zi kd), .int (zi sy)] 4) [] h (fun q _ => ∃ ty9 : Nat → Nat, gSg [114] [] [56000, 56001, 56002, 56003, 80999, 114999] ty h ty9 q.2.2 ∧ ∃ bt2 : Nat, True ∧ ∃ c1 h1 : Int, q.2.2.2.2.2.2 sk 0 = .ref bt2 ∧ ty9 bt2 = 114 ∧ gfin gt115 q.1 q.2.1 = some none ∧ q.2.2.2.2.2.2 sk 1 = .int (zi c1) ∧ 0 ≤ c1 ∧ c1 ≤ 500000 ∧ q.2.2.2.2.2.2 sk 3 = .int (zi h1) ∧ 0 ≤ h1 ∧ h1 ≤ 7 ∧ (4 * c1 + h1 ≤ 4 * c0 + h0 + 300) ∧ (c0 ≤ c1) ∧ (cg = 1 → (c1 = c0 ∧ h1 = h0)) ∧ (1024 * ((q.2.2.1 : Int) - h.1) ≤ (q.2.2.2.2.2.1 bt2 : Int) - h.2.2.2.1 bt) ∧ (((q.2.2.2.1 : Int) - h.2.1) ≤ 2 * ((q.2.2.2.2.2.1 bt2 : Int) - h.2.2.2.1 bt)) ∧ ((h.2.2.2.1 bt : Int) ≤ (q.2.2.2.2.2.1 bt2 : Int)) ∧ (c1 ≤ (q.2.2.2.2.2.1 bt2 : Int))) := by
  have hS : gSs rT 1027 ty [56000, 56001, 56002, 56003, 80999, 114999] h h := gSs.rf hJ
  have G0 : gSg [114] [] [56000, 56001, 56002, 56003, 80999, 114999] ty h ty h := gSg.rf hJ (fun x hx => by cases hx)
  refine gz_s 1 (pc' := 1) (L' := [some (.ref x), some (.int (zi kd)), some (.int (zi sy)), none]) (S' := [.ref x]) rfl ?_
  refine gs_gtr rfl (by decide) rfl hS.1 tx rfl rfl rfl (fun c1 ec1 tc1 => ?_)
  refine gz_s 1 (pc' := 5) (L' := [some (.ref x), some (.int (zi kd)), some (.int (zi sy)), none]) (S' := [.int (zi kd), .ref c1]) rfl ?_
  have he4 : (kd : Int) = 1 := by omega
  refine gs_aal (j := 1) (q2 := 92) rfl (by decide) hS.1 tc1 rfl rfl rfl (by decide) he4 rfl (by decide) (fun c5 ec5 tc5 => ?_)
  refine gz_s 2 (pc' := 8) (L' := [some (.ref x), some (.int (zi kd)), some (.int (zi sy)), some (.ref c5)]) (S' := [.ref x]) rfl ?_
  refine gs_gtk rfl (by decide) rfl hS.1 tx rfl rfl ecg ?_
  by_cases hc6 : (cg : Int) = 0
  · refine gy_ifT (pc' := 22) rfl (by decide) (by decide) (by omega) hc6 ?_
    refine gz_s 1 (pc' := 23) (L' := [some (.ref x), some (.int (zi kd)), some (.int (zi sy)), some (.ref c5)]) (S' := [.ref x]) rfl ?_
    refine gs_gtk rfl (by decide) rfl hS.1 tx rfl rfl esk ?_
    refine gz_s 1 (pc' := 27) (L' := [some (.ref x), some (.int (zi kd)), some (.int (zi sy)), some (.ref c5)]) (S' := [.ref c5, .ref sk]) rfl ?_
    refine gs_gtr rfl (by decide) rfl hS.1 tc5 rfl rfl rfl (fun c7 ec7 tc7 => ?_)
    refine gz_s 1 (pc' := 31) (L' := [some (.ref x), some (.int (zi kd)), some (.int (zi sy)), some (.ref c5)]) (S' := [.int (zi sy), .ref c7, .ref sk]) rfl ?_
    have hl8 : 257 ≤ h.2.2.2.1 c7 ∧ h.2.2.2.1 c7 ≤ 257 := gJ.rowl (G := gGG) hS.1 tc7 rfl
    refine gs_ald rfl (by decide) hS.1 tc7 rfl rfl rfl (by decide) (fun _ => rfl) (by omega) (by omega) (fun z9 ez9 az9 bz9 => ?_)
    refine gz_s 1 (pc' := 33) (L' := [some (.ref x), some (.int (zi kd)), some (.int (zi sy)), some (.ref c5)]) (S' := [.ref c5, .int (zi z9), .ref sk]) rfl ?_
    refine gs_gtr rfl (by decide) rfl hS.1 tc5 rfl rfl rfl (fun c10 ec10 tc10 => ?_)
    refine gz_s 1 (pc' := 37) (L' := [some (.ref x), some (.int (zi kd)), some (.int (zi sy)), some (.ref c5)]) (S' := [.int (zi sy), .ref c10, .int (zi z9), .ref sk]) rfl ?_
    have hl11 : 257 ≤ h.2.2.2.1 c10 ∧ h.2.2.2.1 c10 ≤ 257 := gJ.rowl (G := gGG) hS.1 tc10 rfl
    refine gs_ald rfl (by decide) hS.1 tc10 rfl rfl rfl (by decide) (fun _ => rfl) (by omega) (by omega) (fun z12 ez12 az12 bz12 => ?_)
    have hl13 : h.2.2.2.1 bt = h.2.2.2.1 bt := congrFun hS.2.2.2.2.1 bt
    refine gz_call rfl (by decide) rfl (by decide) (by decide) (gcal_of rfl rfl rfl (Nat.le_of_ble_eq_true rfl) (gJ.recv (G := gGG) hS.1 tsk rfl rfl)) (cl_Sink_putBits _ hS.1 sk tsk z9 (by omega) z12 (by omega) bt ebt tbt c0 ec0 (by omega) h0 eh0 (by omega) (by omega) (by omega) uq) (fun q14 _ wq14 => ?_)
    obtain ⟨pq14, oq14, hq14⟩ := q14
    obtain ⟨tyq14, xq14, cq14_0, ttq14, fq14_0, fq14_1, ecq14_0, tcq14_0, gq14, efq14_0, afq14_0, bfq14_0, efq14_1, afq14_1, bfq14_1, uq14_0, uq14_1, uq14_2, uq14_3, uq14_4, uq14_5⟩ := wq14
    dsimp only at uq14_2 uq14_3 uq14_4 uq14_5
    refine ⟨_, gq14, ?_⟩
    show gz gPP gGG gcn _ _ 41 [some (.ref x), some (.int (zi kd)), some (.int (zi sy)), some (.ref c5)] [] hq14 _
    have G15 : gSg [114] [] [56000, 56001, 56002, 56003, 80999, 114999] ty h tyq14 hq14 := gSg.tr (gSg.ss G0 hS (by decide)) xq14 (by decide) (by decide) (fun x hx => by cases hx)
    have t16 : tyq14 x = 71 := gSg.typ xq14 hS.1 tx rfl
    have t17 : tyq14 sk = 56 := gSg.typ xq14 hS.1 tsk rfl
    have t18 : tyq14 bt = 114 := gSg.typ xq14 hS.1 tbt rfl
    have hl19 : hq14.2.2.2.1 bt = h.2.2.2.1 bt := gSg.len xq14 hS.1 tbt rfl
    have t20 : tyq14 c1 = 75 := gSg.typ xq14 hS.1 tc1 rfl
    have t21 : tyq14 c5 = 92 := gSg.typ xq14 hS.1 tc5 rfl
    have t22 : tyq14 c7 = 78 := gSg.typ xq14 hS.1 tc7 rfl
    have t23 : tyq14 c10 = 79 := gSg.typ xq14 hS.1 tc10 rfl
    have s24 := gSg.at xq14 hS.1 tx rfl (by decide) esk
    have s25 := gSg.at xq14 hS.1 tx rfl (by decide) ecg
    have s26 := gSg.at xq14 hS.1 tx rfl (by decide) ec1
    have s27 := gSg.at xq14 hS.1 tc1 rfl (by decide) ec5
    have s28 := gSg.at xq14 hS.1 tc5 rfl (by decide) ec7
    have s29 := gSg.at xq14 hS.1 tc5 rfl (by decide) ec10
    have uq30 := gSg.uq xq14 uq (by decide)
    have sS31 : gSs rT 1027 tyq14 [56000, 56001, 56002, 56003, 80999, 114999] hq14 hq14 := gSs.rf xq14.1
    have G32 : gSg [114] [] [56000, 56001, 56002, 56003, 80999, 114999] ty h tyq14 hq14 := gSg.ss G15 sS31 (by decide)
    exact gz_end (I := .return_) (len := 1) rfl (Or.inl rfl) ⟨tyq14, G32, cq14_0, trivial, fq14_0, fq14_1, ecq14_0, tcq14_0, rfl, efq14_0, (by omega), (by omega), efq14_1, (by omega), (by omega), (by omega), (by omega), (by omega), (by dsimp only; omega), (by dsimp only; omega), (by dsimp only; omega), (by dsimp only; omega)⟩
  · refine gy_ifF rfl (by decide) (by decide) (by omega) hc6 ?_
    refine gz_s 2 (pc' := 16) (L' := [some (.ref x), some (.int (zi kd)), some (.int (zi sy)), some (.ref c5)]) (S' := [.int (zi sy), .ref c5]) rfl ?_
    refine gz_call rfl (by decide) rfl (by decide) (by decide) (gcal_of rfl rfl rfl (Nat.le_of_ble_eq_true rfl) (gJ.recv (G := gGG) hS.1 tc5 rfl rfl)) (cl_Suited1_countSymbol _ hS.1 c5 tc5 sy (by omega) uq) (fun q33 _ wq33 => ?_)
    obtain ⟨pq33, oq33, hq33⟩ := q33
    obtain ⟨xq33, gq33⟩ := wq33
    refine ⟨_, gq33, ?_⟩
    show gz gPP gGG gcn _ _ 19 [some (.ref x), some (.int (zi kd)), some (.int (zi sy)), some (.ref c5)] [] hq33 _
    have sq33 : gSs rT 1027 ty [56000, 56001, 56002, 56003, 80999, 114999] h hq33 := gSs.tr hS xq33 (by decide)
    have s34 := (xq33.2.2.2.2.2 x 0 (by rw [tx]; decide)).trans esk
    have s35 := (xq33.2.2.2.2.2 sk 0 (by rw [tsk]; decide)).trans ebt
    have s36 := (xq33.2.2.2.2.2 sk 1 (by rw [tsk]; decide)).trans ec0
    have s37 := (xq33.2.2.2.2.2 sk 3 (by rw [tsk]; decide)).trans eh0
    have s38 := (xq33.2.2.2.2.2 x 11 (by rw [tx]; decide)).trans ecg
    have s39 := (xq33.2.2.2.2.2 x 4 (by rw [tx]; decide)).trans ec1
    have s40 := (xq33.2.2.2.2.2 c1 1 (by rw [tc1]; decide)).trans ec5
    refine gz_s 1 (pc' := 41) (L' := [some (.ref x), some (.int (zi kd)), some (.int (zi sy)), some (.ref c5)]) (S' := []) rfl ?_
    have k41 := sq33.2.1
    have k41b := sq33.2.2.1
    have hl42 : hq33.2.2.2.1 bt = h.2.2.2.1 bt := congrFun sq33.2.2.2.2.1 bt
    have G43 : gSg [114] [] [56000, 56001, 56002, 56003, 80999, 114999] ty h ty hq33 := gSg.ss G0 sq33 (by decide)
    exact gz_end (I := .return_) (len := 1) rfl (Or.inl rfl) ⟨ty, G43, bt, trivial, c0, h0, s35, tbt, rfl, s36, (by omega), (by omega), s37, (by omega), (by omega), (by omega), (by omega), (by omega), (by dsimp only; omega), (by dsimp only; omega), (by dsimp only; omega), (by dsimp only; omega)⟩
set_option maxRecDepth 20000 in
set_option maxHeartbeats 4000000 in
theorem cl_Writer_putPlain (d : Nat) {ty : Nat → Nat} {h : gH} (hJ : gJ rT 1027 ty h) (x : Nat) (tx : ty x = 71) (v : Int) (rv : (-2147483648) ≤ v ∧ v ≤ 2147483647) (n : Int) (rn : 0 ≤ n ∧ n ≤ 40) (sk : Nat) (esk : h.2.2.2.2 x 0 = .ref sk) (tsk : ty sk = 56) (bt : Nat) (ebt : h.2.2.2.2 sk 0 = .ref bt) (tbt : ty bt = 114) (c0 : Int) (ec0 : h.2.2.2.2 sk 1 = .int (zi c0)) (rc0 : 0 ≤ c0 ∧ c0 ≤ 499999) (h0 : Int) (eh0 : h.2.2.2.2 sk 3 = .int (zi h0)) (rh0 : 0 ≤ h0 ∧ h0 ≤ 7) (cg : Int) (ecg : h.2.2.2.2 x 11 = .int (zi cg)) (rcg : 0 ≤ cg ∧ cg ≤ 1) (pp0 : 4 * c0 + h0 + n ≤ 1999990) (pp1 : c0 ≤ (h.2.2.2.1 bt : Int)) (uq : gUq ty) : gz gPP gGG gcn (d + 4) gt111 0 (gent [.ref x, .int (zi v), .int (zi n)] 3) [] h (fun q _ => ∃ ty9 : Nat → Nat, gSg [114] [] [56000, 56001, 56002, 56003, 114999] ty h ty9 q.2.2 ∧ ∃ bt2 : Nat, True ∧ ∃ c1 h1 : Int, q.2.2.2.2.2.2 sk 0 = .ref bt2 ∧ ty9 bt2 = 114 ∧ gfin gt111 q.1 q.2.1 = some none ∧ q.2.2.2.2.2.2 sk 1 = .int (zi c1) ∧ 0 ≤ c1 ∧ c1 ≤ 500000 ∧ q.2.2.2.2.2.2 sk 3 = .int (zi h1) ∧ 0 ≤ h1 ∧ h1 ≤ 7 ∧ (4 * c1 + h1 ≤ 4 * c0 + h0 + n) ∧ (c0 ≤ c1) ∧ (cg = 1 → (c1 = c0 ∧ h1 = h0)) ∧ (1024 * ((q.2.2.1 : Int) - h.1) ≤ (q.2.2.2.2.2.1 bt2 : Int) - h.2.2.2.1 bt) ∧ (((q.2.2.2.1 : Int) - h.2.1) ≤ 2 * ((q.2.2.2.2.2.1 bt2 : Int) - h.2.2.2.1 bt)) ∧ ((h.2.2.2.1 bt : Int) ≤ (q.2.2.2.2.2.1 bt2 : Int)) ∧ (c1 ≤ (q.2.2.2.2.2.1 bt2 : Int))) := by
  have hS : gSs rT 1027 ty [56000, 56001, 56002, 56003, 114999] h h := gSs.rf hJ
  have G0 : gSg [114] [] [56000, 56001, 56002, 56003, 114999] ty h ty h := gSg.rf hJ (fun x hx => by cases hx)
  refine gz_s 1 (pc' := 1) (L' := [some (.ref x), some (.int (zi v)), some (.int (zi n))]) (S' := [.ref x]) rfl ?_
  refine gs_gtk rfl (by decide) rfl hS.1 tx rfl rfl ecg ?_
  by_cases hc1 : ¬ (cg : Int) = 0
  · refine gy_ifT (pc' := 16) rfl (by decide) (by decide) (by omega) hc1 ?_
    have G2 : gSg [114] [] [56000, 56001, 56002, 56003, 114999] ty h ty h := gSg.ss G0 hS (by decide)
    exact gz_end (I := .return_) (len := 1) rfl (Or.inl rfl) ⟨ty, G2, bt, trivial, c0, h0, ebt, tbt, rfl, ec0, (by omega), (by omega), eh0, (by omega), (by omega), (by omega), (by omega), (by omega), (by dsimp only; omega), (by dsimp only; omega), (by dsimp only; omega), (by dsimp only; omega)⟩
  · refine gy_ifF rfl (by decide) (by decide) (by omega) hc1 ?_
    refine gz_s 1 (pc' := 8) (L' := [some (.ref x), some (.int (zi v)), some (.int (zi n))]) (S' := [.ref x]) rfl ?_
    refine gs_gtk rfl (by decide) rfl hS.1 tx rfl rfl esk ?_
    refine gz_s 2 (pc' := 13) (L' := [some (.ref x), some (.int (zi v)), some (.int (zi n))]) (S' := [.int (zi n), .int (zi v), .ref sk]) rfl ?_
    have hl3 : h.2.2.2.1 bt = h.2.2.2.1 bt := congrFun hS.2.2.2.2.1 bt
    refine gz_call rfl (by decide) rfl (by decide) (by decide) (gcal_of rfl rfl rfl (Nat.le_of_ble_eq_true rfl) (gJ.recv (G := gGG) hS.1 tsk rfl rfl)) (cl_Sink_putBits _ hS.1 sk tsk v (by omega) n (by omega) bt ebt tbt c0 ec0 (by omega) h0 eh0 (by omega) (by omega) (by omega) uq) (fun q4 _ wq4 => ?_)
    obtain ⟨pq4, oq4, hq4⟩ := q4
    obtain ⟨tyq4, xq4, cq4_0, ttq4, fq4_0, fq4_1, ecq4_0, tcq4_0, gq4, efq4_0, afq4_0, bfq4_0, efq4_1, afq4_1, bfq4_1, uq4_0, uq4_1, uq4_2, uq4_3, uq4_4, uq4_5⟩ := wq4
    dsimp only at uq4_2 uq4_3 uq4_4 uq4_5
    refine ⟨_, gq4, ?_⟩
    show gz gPP gGG gcn _ _ 16 [some (.ref x), some (.int (zi v)), some (.int (zi n))] [] hq4 _
    have G5 : gSg [114] [] [56000, 56001, 56002, 56003, 114999] ty h tyq4 hq4 := gSg.tr (gSg.ss G0 hS (by decide)) xq4 (by decide) (by decide) (fun x hx => by cases hx)
    have t6 : tyq4 x = 71 := gSg.typ xq4 hS.1 tx rfl
    have t7 : tyq4 sk = 56 := gSg.typ xq4 hS.1 tsk rfl
    have t8 : tyq4 bt = 114 := gSg.typ xq4 hS.1 tbt rfl
    have hl9 : hq4.2.2.2.1 bt = h.2.2.2.1 bt := gSg.len xq4 hS.1 tbt rfl
    have s10 := gSg.at xq4 hS.1 tx rfl (by decide) esk
    have s11 := gSg.at xq4 hS.1 tx rfl (by decide) ecg
    have uq12 := gSg.uq xq4 uq (by decide)
    have sS13 : gSs rT 1027 tyq4 [56000, 56001, 56002, 56003, 114999] hq4 hq4 := gSs.rf xq4.1
    have G14 : gSg [114] [] [56000, 56001, 56002, 56003, 114999] ty h tyq4 hq4 := gSg.ss G5 sS13 (by decide)
    exact gz_end (I := .return_) (len := 1) rfl (Or.inl rfl) ⟨tyq4, G14, cq4_0, trivial, fq4_0, fq4_1, ecq4_0, tcq4_0, rfl, efq4_0, (by omega), (by omega), efq4_1, (by omega), (by omega), (by omega), (by omega), (by omega), (by dsimp only; omega), (by dsimp only; omega), (by dsimp only; omega), (by dsimp only; omega)⟩
set_option maxRecDepth 20000 in
set_option maxHeartbeats 4000000 in
theorem cl_Integer_numberOfLeadingZeros (d : Nat) {ty : Nat → Nat} {h : gH} (hJ : gJ rT 1027 ty h) (a : Int) (ra : 0 ≤ a ∧ a ≤ 4096) : gz gPP gGG gcn (d + 0) gt114 0 (gent [.int (zi a)] 2) [] h (fun q _ => gSs rT 1027 ty [] h q.2.2 ∧ ∃ z : Int, gfin gt114 q.1 q.2.1 = some (some (.int (zi z))) ∧ 16 ≤ z ∧ z ≤ 32) := by
  have hS : gSs rT 1027 ty [] h h := gSs.rf hJ
  refine gz_s 1 (pc' := 1) (L' := [some (.int (zi a)), none]) (S' := [.int (zi a)]) rfl ?_
  by_cases hc1 : (0 : Int) < a
  · refine gy_ifT (pc' := 15) rfl (by decide) (by decide) (by omega) hc1 ?_
    refine gz_s 3 (pc' := 19) (L' := [some (.int (zi a)), some (.int (zi 31))]) (S' := [.int (zi a)]) rfl ?_
    refine gz_1 rfl (by decide) rfl rfl (pc' := 22) (S' := [.int (zi 65536), .int (zi a)]) (h' := h) rfl ?_
    refine gy_icT (pc' := 33) rfl (by decide) (by decide) (by omega) (by omega) (by first | (simp [zc]; done) | (simp only [zc]; omega)) ?_
    refine gz_s 2 (pc' := 37) (L' := [some (.int (zi a)), some (.int (zi 31))]) (S' := [.int (zi 256), .int (zi a)]) rfl ?_
    by_cases hc2 : (a : Int) < 256
    · refine gy_icT (pc' := 48) rfl (by decide) (by decide) (by omega) (by omega) hc2 ?_
      refine gz_s 2 (pc' := 51) (L' := [some (.int (zi a)), some (.int (zi 31))]) (S' := [.int (zi 16), .int (zi a)]) rfl ?_
      by_cases hc3 : (a : Int) < 16
      · refine gy_icT (pc' := 61) rfl (by decide) (by decide) (by omega) (by omega) hc3 ?_
        refine gz_s 2 (pc' := 63) (L' := [some (.int (zi a)), some (.int (zi 31))]) (S' := [.int (zi 4), .int (zi a)]) rfl ?_
        by_cases hc4 : (a : Int) < 4
        · refine gy_icT (pc' := 73) rfl (by decide) (by decide) (by omega) (by omega) hc4 ?_
          refine gz_s 3 (pc' := 76) (L' := [some (.int (zi a)), some (.int (zi 31))]) (S' := [.int (zi 1), .int (zi a), .int (zi 31)]) rfl ?_
          refine gy_ushc (n := 1) (v := 2) rfl (by decide) (by omega) rfl (by decide) (by decide) ?_
          refine gy_s 1 (pc' := 78) (L' := [some (.int (zi a)), some (.int (zi 31))]) (S' := [.int ((zi 31) - (zi (a / 2)))]) (L2 := [some (.int (zi a)), some (.int (zi 31))]) (S2 := [.int (zi (31 - (a / 2)))]) rfl (by simp only [zi_add, zi_sub, zi_mul, zi_neg, zi_and1, zi_and7, zi_and15, zi_and31, zi_and255]) (by simp only [zi_add, zi_sub, zi_mul, zi_neg, zi_and1, zi_and7, zi_and15, zi_and31, zi_and255]) ?_
          exact gz_end (I := .ireturn) (len := 1) rfl (Or.inl rfl) ⟨hS, 31 - (a / 2), rfl, (by omega), (by omega)⟩
        · refine gy_icF rfl (by decide) (by decide) (by omega) (by omega) hc4 ?_
          refine gy_s 3 (pc' := 71) (L' := [some (.int (zi a)), some (.int ((zi 31) + zi (-2)))]) (S' := [.int (zi 2), .int (zi a)]) (L2 := [some (.int (zi a)), some (.int (zi (31 + (-2))))]) (S2 := [.int (zi 2), .int (zi a)]) rfl (by simp only [zi_add, zi_sub, zi_mul, zi_neg, zi_and1, zi_and7, zi_and15, zi_and31, zi_and255]) (by simp only [zi_add, zi_sub, zi_mul, zi_neg, zi_and1, zi_and7, zi_and15, zi_and31, zi_and255]) ?_
          refine gy_ushc (n := 2) (v := 4) rfl (by decide) (by omega) rfl (by decide) (by decide) ?_
          refine gz_s 4 (pc' := 76) (L' := [some (.int (zi (a / 4))), some (.int (zi (31 + (-2))))]) (S' := [.int (zi 1), .int (zi (a / 4)), .int (zi (31 + (-2)))]) rfl ?_
          refine gy_ushc (n := 1) (v := 2) rfl (by decide) (by omega) rfl (by decide) (by decide) ?_
          refine gy_s 1 (pc' := 78) (L' := [some (.int (zi (a / 4))), some (.int (zi (31 + (-2))))]) (S' := [.int ((zi (31 + (-2))) - (zi ((a / 4) / 2)))]) (L2 := [some (.int (zi (a / 4))), some (.int (zi (31 + (-2))))]) (S2 := [.int (zi ((31 + (-2)) - ((a / 4) / 2)))]) rfl (by simp only [zi_add, zi_sub, zi_mul, zi_neg, zi_and1, zi_and7, zi_and15, zi_and31, zi_and255]) (by simp only [zi_add, zi_sub, zi_mul, zi_neg, zi_and1, zi_and7, zi_and15, zi_and31, zi_and255]) ?_
          exact gz_end (I := .ireturn) (len := 1) rfl (Or.inl rfl) ⟨hS, (31 + (-2)) - ((a / 4) / 2), rfl, (by omega), (by omega)⟩
      · refine gy_icF rfl (by decide) (by decide) (by omega) (by omega) hc3 ?_
        refine gy_s 3 (pc' := 59) (L' := [some (.int (zi a)), some (.int ((zi 31) + zi (-4)))]) (S' := [.int (zi 4), .int (zi a)]) (L2 := [some (.int (zi a)), some (.int (zi (31 + (-4))))]) (S2 := [.int (zi 4), .int (zi a)]) rfl (by simp only [zi_add, zi_sub, zi_mul, zi_neg, zi_and1, zi_and7, zi_and15, zi_and31, zi_and255]) (by simp only [zi_add, zi_sub, zi_mul, zi_neg, zi_and1, zi_and7, zi_and15, zi_and31, zi_and255]) ?_
        refine gy_ushc (n := 4) (v := 16) rfl (by decide) (by omega) rfl (by decide) (by decide) ?_
        refine gz_s 3 (pc' := 63) (L' := [some (.int (zi (a / 16))), some (.int (zi (31 + (-4))))]) (S' := [.int (zi 4), .int (zi (a / 16))]) rfl ?_
        by_cases hc5 : (a / 16 : Int) < 4
        · refine gy_icT (pc' := 73) rfl (by decide) (by decide) (by omega) (by omega) hc5 ?_
          refine gz_s 3 (pc' := 76) (L' := [some (.int (zi (a / 16))), some (.int (zi (31 + (-4))))]) (S' := [.int (zi 1), .int (zi (a / 16)), .int (zi (31 + (-4)))]) rfl ?_
          refine gy_ushc (n := 1) (v := 2) rfl (by decide) (by omega) rfl (by decide) (by decide) ?_
          refine gy_s 1 (pc' := 78) (L' := [some (.int (zi (a / 16))), some (.int (zi (31 + (-4))))]) (S' := [.int ((zi (31 + (-4))) - (zi ((a / 16) / 2)))]) (L2 := [some (.int (zi (a / 16))), some (.int (zi (31 + (-4))))]) (S2 := [.int (zi ((31 + (-4)) - ((a / 16) / 2)))]) rfl (by simp only [zi_add, zi_sub, zi_mul, zi_neg, zi_and1, zi_and7, zi_and15, zi_and31, zi_and255]) (by simp only [zi_add, zi_sub, zi_mul, zi_neg, zi_and1, zi_and7, zi_and15, zi_and31, zi_and255]) ?_
          exact gz_end (I := .ireturn) (len := 1) rfl (Or.inl rfl) ⟨hS, (31 + (-4)) - ((a / 16) / 2), rfl, (by omega), (by omega)⟩
        · refine gy_icF rfl (by decide) (by decide) (by omega) (by omega) hc5 ?_
          refine gy_s 3 (pc' := 71) (L' := [some (.int (zi (a / 16))), some (.int ((zi (31 + (-4))) + zi (-2)))]) (S' := [.int (zi 2), .int (zi (a / 16))]) (L2 := [some (.int (zi (a / 16))), some (.int (zi ((31 + (-4)) + (-2))))]) (S2 := [.int (zi 2), .int (zi (a / 16))]) rfl (by simp only [zi_add, zi_sub, zi_mul, zi_neg, zi_and1, zi_and7, zi_and15, zi_and31, zi_and255]) (by simp only [zi_add, zi_sub, zi_mul, zi_neg, zi_and1, zi_and7, zi_and15, zi_and31, zi_and255]) ?_
          refine gy_ushc (n := 2) (v := 4) rfl (by decide) (by omega) rfl (by decide) (by decide) ?_
          refine gz_s 4 (pc' := 76) (L' := [some (.int (zi ((a / 16) / 4))), some (.int (zi ((31 + (-4)) + (-2))))]) (S' := [.int (zi 1), .int (zi ((a / 16) / 4)), .int (zi ((31 + (-4)) + (-2)))]) rfl ?_
          refine gy_ushc (n := 1) (v := 2) rfl (by decide) (by omega) rfl (by decide) (by decide) ?_
          refine gy_s 1 (pc' := 78) (L' := [some (.int (zi ((a / 16) / 4))), some (.int (zi ((31 + (-4)) + (-2))))]) (S' := [.int ((zi ((31 + (-4)) + (-2))) - (zi (((a / 16) / 4) / 2)))]) (L2 := [some (.int (zi ((a / 16) / 4))), some (.int (zi ((31 + (-4)) + (-2))))]) (S2 := [.int (zi (((31 + (-4)) + (-2)) - (((a / 16) / 4) / 2)))]) rfl (by simp only [zi_add, zi_sub, zi_mul, zi_neg, zi_and1, zi_and7, zi_and15, zi_and31, zi_and255]) (by simp only [zi_add, zi_sub, zi_mul, zi_neg, zi_and1, zi_and7, zi_and15, zi_and31, zi_and255]) ?_
          exact gz_end (I := .ireturn) (len := 1) rfl (Or.inl rfl) ⟨hS, ((31 + (-4)) + (-2)) - (((a / 16) / 4) / 2), rfl, (by omega), (by omega)⟩
    · refine gy_icF rfl (by decide) (by decide) (by omega) (by omega) hc2 ?_
      refine gy_s 3 (pc' := 46) (L' := [some (.int (zi a)), some (.int ((zi 31) + zi (-8)))]) (S' := [.int (zi 8), .int (zi a)]) (L2 := [some (.int (zi a)), some (.int (zi (31 + (-8))))]) (S2 := [.int (zi 8), .int (zi a)]) rfl (by simp only [zi_add, zi_sub, zi_mul, zi_neg, zi_and1, zi_and7, zi_and15, zi_and31, zi_and255]) (by simp only [zi_add, zi_sub, zi_mul, zi_neg, zi_and1, zi_and7, zi_and15, zi_and31, zi_and255]) ?_
      refine gy_ushc (n := 8) (v := 256) rfl (by decide) (by omega) rfl (by decide) (by decide) ?_
      refine gz_s 3 (pc' := 51) (L' := [some (.int (zi (a / 256))), some (.int (zi (31 + (-8))))]) (S' := [.int (zi 16), .int (zi (a / 256))]) rfl ?_
      by_cases hc6 : (a / 256 : Int) < 16
      · refine gy_icT (pc' := 61) rfl (by decide) (by decide) (by omega) (by omega) hc6 ?_
        refine gz_s 2 (pc' := 63) (L' := [some (.int (zi (a / 256))), some (.int (zi (31 + (-8))))]) (S' := [.int (zi 4), .int (zi (a / 256))]) rfl ?_
        by_cases hc7 : (a / 256 : Int) < 4
        · refine gy_icT (pc' := 73) rfl (by decide) (by decide) (by omega) (by omega) hc7 ?_
          refine gz_s 3 (pc' := 76) (L' := [some (.int (zi (a / 256))), some (.int (zi (31 + (-8))))]) (S' := [.int (zi 1), .int (zi (a / 256)), .int (zi (31 + (-8)))]) rfl ?_
          refine gy_ushc (n := 1) (v := 2) rfl (by decide) (by omega) rfl (by decide) (by decide) ?_
          refine gy_s 1 (pc' := 78) (L' := [some (.int (zi (a / 256))), some (.int (zi (31 + (-8))))]) (S' := [.int ((zi (31 + (-8))) - (zi ((a / 256) / 2)))]) (L2 := [some (.int (zi (a / 256))), some (.int (zi (31 + (-8))))]) (S2 := [.int (zi ((31 + (-8)) - ((a / 256) / 2)))]) rfl (by simp only [zi_add, zi_sub, zi_mul, zi_neg, zi_and1, zi_and7, zi_and15, zi_and31, zi_and255]) (by simp only [zi_add, zi_sub, zi_mul, zi_neg, zi_and1, zi_and7, zi_and15, zi_and31, zi_and255]) ?_
          exact gz_end (I := .ireturn) (len := 1) rfl (Or.inl rfl) ⟨hS, (31 + (-8)) - ((a / 256) / 2), rfl, (by omega), (by omega)⟩
        · refine gy_icF rfl (by decide) (by decide) (by omega) (by omega) hc7 ?_
          refine gy_s 3 (pc' := 71) (L' := [some (.int (zi (a / 256))), some (.int ((zi (31 + (-8))) + zi (-2)))]) (S' := [.int (zi 2), .int (zi (a / 256))]) (L2 := [some (.int (zi (a / 256))), some (.int (zi ((31 + (-8)) + (-2))))]) (S2 := [.int (zi 2), .int (zi (a / 256))]) rfl (by simp only [zi_add, zi_sub, zi_mul, zi_neg, zi_and1, zi_and7, zi_and15, zi_and31, zi_and255]) (by simp only [zi_add, zi_sub, zi_mul, zi_neg, zi_and1, zi_and7, zi_and15, zi_and31, zi_and255]) ?_
          refine gy_ushc (n := 2) (v := 4) rfl (by decide) (by omega) rfl (by decide) (by decide) ?_
          refine gz_s 4 (pc' := 76) (L' := [some (.int (zi ((a / 256) / 4))), some (.int (zi ((31 + (-8)) + (-2))))]) (S' := [.int (zi 1), .int (zi ((a / 256) / 4)), .int (zi ((31 + (-8)) + (-2)))]) rfl ?_
          refine gy_ushc (n := 1) (v := 2) rfl (by decide) (by omega) rfl (by decide) (by decide) ?_
          refine gy_s 1 (pc' := 78) (L' := [some (.int (zi ((a / 256) / 4))), some (.int (zi ((31 + (-8)) + (-2))))]) (S' := [.int ((zi ((31 + (-8)) + (-2))) - (zi (((a / 256) / 4) / 2)))]) (L2 := [some (.int (zi ((a / 256) / 4))), some (.int (zi ((31 + (-8)) + (-2))))]) (S2 := [.int (zi (((31 + (-8)) + (-2)) - (((a / 256) / 4) / 2)))]) rfl (by simp only [zi_add, zi_sub, zi_mul, zi_neg, zi_and1, zi_and7, zi_and15, zi_and31, zi_and255]) (by simp only [zi_add, zi_sub, zi_mul, zi_neg, zi_and1, zi_and7, zi_and15, zi_and31, zi_and255]) ?_
          exact gz_end (I := .ireturn) (len := 1) rfl (Or.inl rfl) ⟨hS, ((31 + (-8)) + (-2)) - (((a / 256) / 4) / 2), rfl, (by omega), (by omega)⟩
      · refine gy_icF rfl (by decide) (by decide) (by omega) (by omega) hc6 ?_
        refine gy_s 3 (pc' := 59) (L' := [some (.int (zi (a / 256))), some (.int ((zi (31 + (-8))) + zi (-4)))]) (S' := [.int (zi 4), .int (zi (a / 256))]) (L2 := [some (.int (zi (a / 256))), some (.int (zi ((31 + (-8)) + (-4))))]) (S2 := [.int (zi 4), .int (zi (a / 256))]) rfl (by simp only [zi_add, zi_sub, zi_mul, zi_neg, zi_and1, zi_and7, zi_and15, zi_and31, zi_and255]) (by simp only [zi_add, zi_sub, zi_mul, zi_neg, zi_and1, zi_and7, zi_and15, zi_and31, zi_and255]) ?_
        refine gy_ushc (n := 4) (v := 16) rfl (by decide) (by omega) rfl (by decide) (by decide) ?_
        refine gz_s 3 (pc' := 63) (L' := [some (.int (zi ((a / 256) / 16))), some (.int (zi ((31 + (-8)) + (-4))))]) (S' := [.int (zi 4), .int (zi ((a / 256) / 16))]) rfl ?_
        refine gy_icT (pc' := 73) rfl (by decide) (by decide) (by omega) (by omega) (by first | (simp [zc]; done) | (simp only [zc]; omega)) ?_
        refine gz_s 3 (pc' := 76) (L' := [some (.int (zi ((a / 256) / 16))), some (.int (zi ((31 + (-8)) + (-4))))]) (S' := [.int (zi 1), .int (zi ((a / 256) / 16)), .int (zi ((31 + (-8)) + (-4)))]) rfl ?_
        refine gy_ushc (n := 1) (v := 2) rfl (by decide) (by omega) rfl (by decide) (by decide) ?_
        refine gy_s 1 (pc' := 78) (L' := [some (.int (zi ((a / 256) / 16))), some (.int (zi ((31 + (-8)) + (-4))))]) (S' := [.int ((zi ((31 + (-8)) + (-4))) - (zi (((a / 256) / 16) / 2)))]) (L2 := [some (.int (zi ((a / 256) / 16))), some (.int (zi ((31 + (-8)) + (-4))))]) (S2 := [.int (zi (((31 + (-8)) + (-4)) - (((a / 256) / 16) / 2)))]) rfl (by simp only [zi_add, zi_sub, zi_mul, zi_neg, zi_and1, zi_and7, zi_and15, zi_and31, zi_and255]) (by simp only [zi_add, zi_sub, zi_mul, zi_neg, zi_and1, zi_and7, zi_and15, zi_and31, zi_and255]) ?_
        exact gz_end (I := .ireturn) (len := 1) rfl (Or.inl rfl) ⟨hS, ((31 + (-8)) + (-4)) - (((a / 256) / 16) / 2), rfl, (by omega), (by omega)⟩
  · refine gy_ifF rfl (by decide) (by decide) (by omega) hc1 ?_
    refine gz_s 1 (pc' := 5) (L' := [some (.int (zi a)), none]) (S' := [.int (zi a)]) rfl ?_
    refine gy_ifF rfl (by decide) (by decide) (by omega) (by first | (simp [zc]; done) | (simp only [zc]; omega)) ?_
    refine gz_s 2 (pc' := 14) (L' := [some (.int (zi a)), none]) (S' := [.int (zi 32)]) rfl ?_
    exact gz_end (I := .ireturn) (len := 1) rfl (Or.inl rfl) ⟨hS, 32, rfl, (by omega), (by omega)⟩
set_option maxRecDepth 20000 in
set_option maxHeartbeats 4000000 in
theorem cl_Writer_bitsOf (d : Nat) {ty : Nat → Nat} {h : gH} (hJ : gJ rT 1027 ty h) (v : Int) (rv : (-4096) ≤ v ∧ v ≤ 4096) (uq : gUq ty) : gz gPP gGG gcn (d + 1) gt112 0 (gent [.int (zi v)] 1) [] h (fun q _ => gSs rT 1027 ty [] h q.2.2 ∧ ∃ z : Int, gfin gt112 q.1 q.2.1 = some (some (.int (zi z))) ∧ 0 ≤ z ∧ z ≤ 16) := by
  have hS : gSs rT 1027 ty [] h h := gSs.rf hJ
  refine gz_s 2 (pc' := 3) (L' := [some (.int (zi v))]) (S' := [.int (zi v), .int (zi 32)]) rfl ?_
  refine gz_call rfl (by decide) rfl (by decide) (by decide) (gcal_of rfl rfl rfl (Nat.le_of_ble_eq_true rfl) rfl) (cl_Math_abs _ hS.1 v (by omega) ) (fun q1 _ wq1 => ?_)
  obtain ⟨pq1, oq1, hq1⟩ := q1
  obtain ⟨xq1, zq1, gq1, aq1, bq1, uq1_0, uq1_1⟩ := wq1
  refine ⟨_, gq1, ?_⟩
  show gz gPP gGG gcn _ _ 6 [some (.int (zi v))] [.int (zi zq1), .int (zi 32)] hq1 _
  have sq1 : gSs rT 1027 ty [] h hq1 := gSs.tr hS xq1 (by decide)
  refine gz_call rfl (by decide) rfl (by decide) (by decide) (gcal_of rfl rfl rfl (Nat.le_of_ble_eq_true rfl) rfl) (cl_Integer_numberOfLeadingZeros _ sq1.1 zq1 (by omega) ) (fun q2 _ wq2 => ?_)
  obtain ⟨pq2, oq2, hq2⟩ := q2
  obtain ⟨xq2, zq2, gq2, aq2, bq2⟩ := wq2
  refine ⟨_, gq2, ?_⟩
  show gz gPP gGG gcn _ _ 9 [some (.int (zi v))] [.int (zi zq2), .int (zi 32)] hq2 _
  have sq2 : gSs rT 1027 ty [] h hq2 := gSs.tr sq1 xq2 (by decide)
  refine gy_s 1 (pc' := 10) (L' := [some (.int (zi v))]) (S' := [.int ((zi 32) - (zi zq2))]) (L2 := [some (.int (zi v))]) (S2 := [.int (zi (32 - zq2))]) rfl (by simp only [zi_add, zi_sub, zi_mul, zi_neg, zi_and1, zi_and7, zi_and15, zi_and31, zi_and255]) (by simp only [zi_add, zi_sub, zi_mul, zi_neg, zi_and1, zi_and7, zi_and15, zi_and31, zi_and255]) ?_
  exact gz_end (I := .ireturn) (len := 1) rfl (Or.inl rfl) ⟨sq2, 32 - zq2, rfl, (by omega), (by omega)⟩
set_option maxRecDepth 20000 in
set_option maxHeartbeats 4000000 in
theorem cl_Writer_putRestart (d : Nat) {ty : Nat → Nat} {h : gH} (hJ : gJ rT 1027 ty h) (x : Nat) (tx : ty x = 71) (n : Int) (rn : (-1) ≤ n ∧ n ≤ 16) (sk : Nat) (esk : h.2.2.2.2 x 0 = .ref sk) (tsk : ty sk = 56) (bt : Nat) (ebt : h.2.2.2.2 sk 0 = .ref bt) (tbt : ty bt = 114) (c0 : Int) (ec0 : h.2.2.2.2 sk 1 = .int (zi c0)) (rc0 : 0 ≤ c0 ∧ c0 ≤ 499999) (h0 : Int) (eh0 : h.2.2.2.2 sk 3 = .int (zi h0)) (rh0 : 0 ≤ h0 ∧ h0 ≤ 7) (cg : Int) (ecg : h.2.2.2.2 x 11 = .int (zi cg)) (rcg : 0 ≤ cg ∧ cg ≤ 1) (pp0 : 4 * c0 + h0 + 16 ≤ 1999990) (pp1 : c0 ≤ (h.2.2.2.1 bt : Int)) (uq : gUq ty) : gz gPP gGG gcn (d + 5) gt107 0 (gent [.ref x, .int (zi n)] 2) [] h (fun q _ => ∃ ty9 : Nat → Nat, gSg [114] [] [56000, 56001, 56002, 56003, 114999] ty h ty9 q.2.2 ∧ ∃ bt2 : Nat, True ∧ ∃ c1 h1 : Int, q.2.2.2.2.2.2 sk 0 = .ref bt2 ∧ ty9 bt2 = 114 ∧ gfin gt107 q.1 q.2.1 = some none ∧ q.2.2.2.2.2.2 sk 1 = .int (zi c1) ∧ 0 ≤ c1 ∧ c1 ≤ 500000 ∧ q.2.2.2.2.2.2 sk 3 = .int (zi h1) ∧ 0 ≤ h1 ∧ h1 ≤ 7 ∧ (4 * c1 + h1 ≤ 4 * c0 + h0 + 16) ∧ (c0 ≤ c1) ∧ (cg = 1 → (c1 = c0 ∧ h1 = h0)) ∧ (1024 * ((q.2.2.1 : Int) - h.1) ≤ (q.2.2.2.2.2.1 bt2 : Int) - h.2.2.2.1 bt) ∧ (((q.2.2.2.1 : Int) - h.2.1) ≤ 2 * ((q.2.2.2.2.2.1 bt2 : Int) - h.2.2.2.1 bt)) ∧ ((h.2.2.2.1 bt : Int) ≤ (q.2.2.2.2.2.1 bt2 : Int)) ∧ (c1 ≤ (q.2.2.2.2.2.1 bt2 : Int))) := by
  have hS : gSs rT 1027 ty [56000, 56001, 56002, 56003, 114999] h h := gSs.rf hJ
  have G0 : gSg [114] [] [56000, 56001, 56002, 56003, 114999] ty h ty h := gSg.rf hJ (fun x hx => by cases hx)
  refine gz_s 1 (pc' := 1) (L' := [some (.ref x), some (.int (zi n))]) (S' := [.ref x]) rfl ?_
  refine gs_gtk rfl (by decide) rfl hS.1 tx rfl rfl ecg ?_
  by_cases hc1 : ¬ (cg : Int) = 0
  · refine gy_ifT (pc' := 29) rfl (by decide) (by decide) (by omega) hc1 ?_
    have G2 : gSg [114] [] [56000, 56001, 56002, 56003, 114999] ty h ty h := gSg.ss G0 hS (by decide)
    exact gz_end (I := .return_) (len := 1) rfl (Or.inl rfl) ⟨ty, G2, bt, trivial, c0, h0, ebt, tbt, rfl, ec0, (by omega), (by omega), eh0, (by omega), (by omega), (by omega), (by omega), (by omega), (by dsimp only; omega), (by dsimp only; omega), (by dsimp only; omega), (by dsimp only; omega)⟩
  · refine gy_ifF rfl (by decide) (by decide) (by omega) hc1 ?_
    refine gz_s 1 (pc' := 8) (L' := [some (.ref x), some (.int (zi n))]) (S' := [.ref x]) rfl ?_
    refine gs_gtk rfl (by decide) rfl hS.1 tx rfl rfl esk ?_
    have hl3 : h.2.2.2.1 bt = h.2.2.2.1 bt := congrFun hS.2.2.2.2.1 bt
    refine gz_call rfl (by decide) rfl (by decide) (by decide) (gcal_of rfl rfl rfl (Nat.le_of_ble_eq_true rfl) (gJ.recv (G := gGG) hS.1 tsk rfl rfl)) (cl_Sink_fillByte _ hS.1 sk tsk bt ebt tbt c0 ec0 (by omega) h0 eh0 (by omega) (by omega) (by omega) uq) (fun q4 _ wq4 => ?_)
    obtain ⟨pq4, oq4, hq4⟩ := q4
    obtain ⟨tyq4, xq4, cq4_0, ttq4, fq4_0, fq4_1, ecq4_0, tcq4_0, gq4, efq4_0, afq4_0, bfq4_0, efq4_1, afq4_1, bfq4_1, uq4_0, uq4_1, uq4_2, uq4_3, uq4_4, uq4_5⟩ := wq4
    dsimp only at uq4_2 uq4_3 uq4_4 uq4_5
    refine ⟨_, gq4, ?_⟩
    show gz gPP gGG gcn _ _ 14 [some (.ref x), some (.int (zi n))] [] hq4 _
    have G5 : gSg [114] [] [56000, 56001, 56002, 56003, 114999] ty h tyq4 hq4 := gSg.tr (gSg.ss G0 hS (by decide)) xq4 (by decide) (by decide) (fun x hx => by cases hx)
    have t6 : tyq4 x = 71 := gSg.typ xq4 hS.1 tx rfl
    have t7 : tyq4 sk = 56 := gSg.typ xq4 hS.1 tsk rfl
    have t8 : tyq4 bt = 114 := gSg.typ xq4 hS.1 tbt rfl
    have hl9 : hq4.2.2.2.1 bt = h.2.2.2.1 bt := gSg.len xq4 hS.1 tbt rfl
    have s10 := gSg.at xq4 hS.1 tx rfl (by decide) esk
    have s11 := gSg.at xq4 hS.1 tx rfl (by decide) ecg
    have uq12 := gSg.uq xq4 uq (by decide)
    have sS13 : gSs rT 1027 tyq4 [56000, 56001, 56002, 56003, 114999] hq4 hq4 := gSs.rf xq4.1
    refine gz_s 1 (pc' := 15) (L' := [some (.ref x), some (.int (zi n))]) (S' := [.ref x]) rfl ?_
    refine gs_gtk rfl (by decide) rfl sS13.1 t6 rfl rfl s10 ?_
    refine gz_s 3 (pc' := 24) (L' := [some (.ref x), some (.int (zi n))]) (S' := [.int (zi 8), .int (zi n), .int (zi 208), .ref sk]) rfl ?_
    refine gy_rmv rfl (by decide) (by omega) (by omega) (fun z14 az14 bz14 cz14 => ?_)
    refine gy_s 1 (pc' := 26) (L' := [some (.ref x), some (.int (zi n))]) (S' := [.int ((zi 208) + (zi z14)), .ref sk]) (L2 := [some (.ref x), some (.int (zi n))]) (S2 := [.int (zi (208 + z14)), .ref sk]) rfl (by simp only [zi_add, zi_sub, zi_mul, zi_neg, zi_and1, zi_and7, zi_and15, zi_and31, zi_and255]) (by simp only [zi_add, zi_sub, zi_mul, zi_neg, zi_and1, zi_and7, zi_and15, zi_and31, zi_and255]) ?_
    have hl15 : hq4.2.2.2.1 cq4_0 = hq4.2.2.2.1 cq4_0 := congrFun sS13.2.2.2.2.1 cq4_0
    refine gz_call rfl (by decide) rfl (by decide) (by decide) (gcal_of rfl rfl rfl (Nat.le_of_ble_eq_true rfl) (gJ.recv (G := gGG) sS13.1 t7 rfl rfl)) (cl_Sink_putMarker _ sS13.1 sk t7 (208 + z14) (by omega) cq4_0 ecq4_0 tcq4_0 fq4_0 efq4_0 (by omega) (by omega) uq12) (fun q16 _ wq16 => ?_)
    obtain ⟨pq16, oq16, hq16⟩ := q16
    obtain ⟨tyq16, xq16, cq16_0, ttq16, fq16_0, ecq16_0, tcq16_0, gq16, efq16_0, afq16_0, bfq16_0, uq16_0, uq16_1, uq16_2, uq16_3, uq16_4⟩ := wq16
    dsimp only at uq16_1 uq16_2 uq16_3 uq16_4
    refine ⟨_, gq16, ?_⟩
    show gz gPP gGG gcn _ _ 29 [some (.ref x), some (.int (zi n))] [] hq16 _
    have G17 : gSg [114] [] [56000, 56001, 56002, 56003, 114999] ty h tyq16 hq16 := gSg.tr (gSg.ss G5 sS13 (by decide)) xq16 (by decide) (by decide) (fun x hx => by cases hx)
    have t18 : tyq16 x = 71 := gSg.typ xq16 sS13.1 t6 rfl
    have t19 : tyq16 sk = 56 := gSg.typ xq16 sS13.1 t7 rfl
    have t20 : tyq16 bt = 114 := gSg.typ xq16 sS13.1 t8 rfl
    have hl21 : hq16.2.2.2.1 bt = hq4.2.2.2.1 bt := gSg.len xq16 sS13.1 t8 rfl
    have t22 : tyq16 cq4_0 = 114 := gSg.typ xq16 sS13.1 tcq4_0 rfl
    have hl23 : hq16.2.2.2.1 cq4_0 = hq4.2.2.2.1 cq4_0 := gSg.len xq16 sS13.1 tcq4_0 rfl
    have s24 := gSg.at xq16 sS13.1 t6 rfl (by decide) s10
    have s25 := gSg.at xq16 sS13.1 t6 rfl (by decide) s11
    have s26 := gSg.at xq16 sS13.1 t7 rfl (by decide) efq4_1
    have uq27 := gSg.uq xq16 uq12 (by decide)
    have sS28 : gSs rT 1027 tyq16 [56000, 56001, 56002, 56003, 114999] hq16 hq16 := gSs.rf xq16.1
    have G29 : gSg [114] [] [56000, 56001, 56002, 56003, 114999] ty h tyq16 hq16 := gSg.ss G17 sS28 (by decide)
    exact gz_end (I := .return_) (len := 1) rfl (Or.inl rfl) ⟨tyq16, G29, cq16_0, trivial, fq16_0, fq4_1, ecq16_0, tcq16_0, rfl, efq16_0, (by omega), (by omega), s26, (by omega), (by omega), (by omega), (by omega), (by omega), (by dsimp only; omega), (by dsimp only; omega), (by dsimp only; omega), (by dsimp only; omega)⟩
set_option maxRecDepth 20000 in
set_option maxHeartbeats 4000000 in
theorem cl_Writer_putFirst (d : Nat) {ty : Nat → Nat} {h : gH} (hJ : gJ rT 1027 ty h) (x : Nat) (tx : ty x = 71) (p : Int) (rp : 0 ≤ p ∧ p ≤ 960) (sk : Nat) (esk : h.2.2.2.2 x 0 = .ref sk) (tsk : ty sk = 56) (bt : Nat) (ebt : h.2.2.2.2 sk 0 = .ref bt) (tbt : ty bt = 114) (c0 : Int) (ec0 : h.2.2.2.2 sk 1 = .int (zi c0)) (rc0 : 0 ≤ c0 ∧ c0 ≤ 499999) (h0 : Int) (eh0 : h.2.2.2.2 sk 3 = .int (zi h0)) (rh0 : 0 ≤ h0 ∧ h0 ≤ 7) (cg : Int) (ecg : h.2.2.2.2 x 11 = .int (zi cg)) (rcg : 0 ≤ cg ∧ cg ≤ 1) (pp0 : 4 * c0 + h0 + 320 ≤ 1999990) (pp1 : c0 ≤ (h.2.2.2.1 bt : Int)) (uq : gUq ty) : gz gPP gGG gcn (d + 5) gt110 0 (gent [.ref x, .int (zi p)] 5) [] h (fun q _ => ∃ ty9 : Nat → Nat, gSg [114] [] [56000, 56001, 56002, 56003, 71012, 97999, 114999] ty h ty9 q.2.2 ∧ ∃ bt2 : Nat, True ∧ ∃ c1 h1 : Int, q.2.2.2.2.2.2 sk 0 = .ref bt2 ∧ ty9 bt2 = 114 ∧ gfin gt110 q.1 q.2.1 = some none ∧ q.2.2.2.2.2.2 sk 1 = .int (zi c1) ∧ 0 ≤ c1 ∧ c1 ≤ 500000 ∧ q.2.2.2.2.2.2 sk 3 = .int (zi h1) ∧ 0 ≤ h1 ∧ h1 ≤ 7 ∧ (4 * c1 + h1 ≤ 4 * c0 + h0 + 320) ∧ (c0 ≤ c1) ∧ (cg = 1 → (c1 = c0 ∧ h1 = h0)) ∧ (1024 * ((q.2.2.1 : Int) - h.1) ≤ (q.2.2.2.2.2.1 bt2 : Int) - h.2.2.2.1 bt) ∧ (((q.2.2.2.1 : Int) - h.2.1) ≤ 2 * ((q.2.2.2.2.2.1 bt2 : Int) - h.2.2.2.1 bt)) ∧ ((h.2.2.2.1 bt : Int) ≤ (q.2.2.2.2.2.1 bt2 : Int)) ∧ (c1 ≤ (q.2.2.2.2.2.1 bt2 : Int))) := by
  have hS : gSs rT 1027 ty [56000, 56001, 56002, 56003, 71012, 97999, 114999] h h := gSs.rf hJ
  have G0 : gSg [114] [] [56000, 56001, 56002, 56003, 71012, 97999, 114999] ty h ty h := gSg.rf hJ (fun x hx => by cases hx)
  refine gz_s 1 (pc' := 1) (L' := [some (.ref x), some (.int (zi p)), none, none, none]) (S' := [.ref x]) rfl ?_
  refine gs_gtr rfl (by decide) rfl hS.1 tx rfl rfl rfl (fun c1 ec1 tc1 => ?_)
  refine gz_s 1 (pc' := 5) (L' := [some (.ref x), some (.int (zi p)), none, none, none]) (S' := [.int (zi p), .ref c1]) rfl ?_
  have hl2 : 1024 ≤ h.2.2.2.1 c1 ∧ h.2.2.2.1 c1 ≤ 1024 := gJ.rowl (G := gGG) hS.1 tc1 rfl
  refine gs_ald rfl (by decide) hS.1 tc1 rfl rfl rfl (by decide) (fun _ => rfl) (by omega) (by omega) (fun z3 ez3 az3 bz3 => ?_)
  refine gz_s 1 (pc' := 7) (L' := [some (.ref x), some (.int (zi p)), none, none, none]) (S' := [.ref x, .int (zi z3)]) rfl ?_
  refine gs_get rfl (by decide) rfl hS.1 tx rfl rfl rfl (fun z4 ez4 az4 bz4 => ?_)
  refine gy_shv rfl (by decide) (by omega) (by omega) (fun z5 az5 bz5 => ?_)
  refine gz_s 2 (pc' := 13) (L' := [some (.ref x), some (.int (zi p)), some (.int (zi z5)), none, none]) (S' := [.ref x]) rfl ?_
  refine gs_get rfl (by decide) rfl hS.1 tx rfl rfl rfl (fun z6 ez6 az6 bz6 => ?_)
  by_cases hc7 : (z6 : Int) ≤ 0
  · refine gy_ifT (pc' := 28) rfl (by decide) (by decide) (by omega) hc7 ?_
    refine gz_s 2 (pc' := 30) (L' := [some (.ref x), some (.int (zi p)), some (.int (zi z5)), none, none]) (S' := [.ref x, .int (zi z5)]) rfl ?_
    refine gs_get rfl (by decide) rfl hS.1 tx rfl rfl rfl (fun z8 ez8 az8 bz8 => ?_)
    refine gy_s 4 (pc' := 37) (L' := [some (.ref x), some (.int (zi p)), some (.int (zi z5)), some (.int ((zi z5) - (zi z8))), none]) (S' := [.int (zi z5), .ref x]) (L2 := [some (.ref x), some (.int (zi p)), some (.int (zi z5)), some (.int (zi (z5 - z8))), none]) (S2 := [.int (zi z5), .ref x]) rfl (by simp only [zi_add, zi_sub, zi_mul, zi_neg, zi_and1, zi_and7, zi_and15, zi_and31, zi_and255]) (by simp only [zi_add, zi_sub, zi_mul, zi_neg, zi_and1, zi_and7, zi_and15, zi_and31, zi_and255]) ?_
    refine gs_put rfl (by decide) rfl hS tx rfl rfl rfl rfl (Or.inl rfl) (by decide) (by omega) (by omega) (fun h9 sh9 eh9 fh9 => ?_)
    have s10 := (fh9 x 0 (fun q => absurd q.2 (by decide))).trans esk
    have s11 := (fh9 sk 0 (fun q => absurd q.2 (by decide))).trans ebt
    have s12 := (fh9 sk 1 (fun q => absurd q.2 (by decide))).trans ec0
    have s13 := (fh9 sk 3 (fun q => absurd q.2 (by decide))).trans eh0
    have s14 := (fh9 x 11 (fun q => absurd q.2 (by decide))).trans ecg
    have s15 := (fh9 x 2 (fun q => absurd q.2 (by decide))).trans ec1
    have s16 := (fh9 x 10 (fun q => absurd q.2 (by decide))).trans ez4
    have s17 := (fh9 x 9 (fun q => absurd q.2 (by decide))).trans ez6
    refine gz_s 1 (pc' := 41) (L' := [some (.ref x), some (.int (zi p)), some (.int (zi z5)), some (.int (zi (z5 - z8))), none]) (S' := [.int (zi (z5 - z8))]) rfl ?_
    refine gz_call rfl (by decide) rfl (by decide) (by decide) (gcal_of rfl rfl rfl (Nat.le_of_ble_eq_true rfl) rfl) (cl_Writer_bitsOf _ sh9.1 (z5 - z8) (by omega) uq) (fun q18 _ wq18 => ?_)
    obtain ⟨pq18, oq18, hq18⟩ := q18
    obtain ⟨xq18, zq18, gq18, aq18, bq18⟩ := wq18
    refine ⟨_, gq18, ?_⟩
    show gz gPP gGG gcn _ _ 44 [some (.ref x), some (.int (zi p)), some (.int (zi z5)), some (.int (zi (z5 - z8))), none] [.int (zi zq18)] hq18 _
    have sq18 : gSs rT 1027 ty [56000, 56001, 56002, 56003, 71012, 97999, 114999] h hq18 := gSs.tr sh9 xq18 (by decide)
    have s19 := (xq18.2.2.2.2.2 x 0 (by rw [tx]; decide)).trans s10
    have s20 := (xq18.2.2.2.2.2 sk 0 (by rw [tsk]; decide)).trans s11
    have s21 := (xq18.2.2.2.2.2 sk 1 (by rw [tsk]; decide)).trans s12
    have s22 := (xq18.2.2.2.2.2 sk 3 (by rw [tsk]; decide)).trans s13
    have s23 := (xq18.2.2.2.2.2 x 11 (by rw [tx]; decide)).trans s14
    have s24 := (xq18.2.2.2.2.2 x 2 (by rw [tx]; decide)).trans s15
    have s25 := (xq18.2.2.2.2.2 x 10 (by rw [tx]; decide)).trans s16
    have s26 := (xq18.2.2.2.2.2 x 9 (by rw [tx]; decide)).trans s17
    have s27 := (xq18.2.2.2.2.2 x 12 (by rw [tx]; decide)).trans eh9
    refine gz_s 4 (pc' := 50) (L' := [some (.ref x), some (.int (zi p)), some (.int (zi z5)), some (.int (zi (z5 - z8))), some (.int (zi zq18))]) (S' := [.int (zi zq18), .int (zi 0), .ref x]) rfl ?_
    have k28 := sq18.2.1
    have k28b := sq18.2.2.1
    have hl29 : hq18.2.2.2.1 bt = h.2.2.2.1 bt := congrFun sq18.2.2.2.2.1 bt
    have hl30 : hq18.2.2.2.1 bt = h.2.2.2.1 bt := congrFun sq18.2.2.2.2.1 bt
    refine gz_call rfl (by decide) rfl (by decide) (by decide) (gcal_of rfl rfl rfl (Nat.le_of_ble_eq_true rfl) (gJ.recv (G := gGG) sq18.1 tx rfl rfl)) (cl_putSymbol0 _ sq18.1 x tx 0 (by omega) zq18 (by omega) sk s19 tsk bt s20 tbt c0 s21 (by omega) h0 s22 (by omega) cg s23 (by omega) (by omega) (by omega) uq) (fun q31 _ wq31 => ?_)
    obtain ⟨pq31, oq31, hq31⟩ := q31
    obtain ⟨tyq31, xq31, cq31_0, ttq31, fq31_0, fq31_1, ecq31_0, tcq31_0, gq31, efq31_0, afq31_0, bfq31_0, efq31_1, afq31_1, bfq31_1, uq31_0, uq31_1, uq31_2, uq31_3, uq31_4, uq31_5, uq31_6⟩ := wq31
    dsimp only at uq31_3 uq31_4 uq31_5 uq31_6
    refine ⟨_, gq31, ?_⟩
    show gz gPP gGG gcn _ _ 53 [some (.ref x), some (.int (zi p)), some (.int (zi z5)), some (.int (zi (z5 - z8))), some (.int (zi zq18))] [] hq31 _
    have G32 : gSg [114] [] [56000, 56001, 56002, 56003, 71012, 97999, 114999] ty h tyq31 hq31 := gSg.tr (gSg.ss G0 sq18 (by decide)) xq31 (by decide) (by decide) (fun x hx => by cases hx)
    have t33 : tyq31 x = 71 := gSg.typ xq31 sq18.1 tx rfl
    have t34 : tyq31 sk = 56 := gSg.typ xq31 sq18.1 tsk rfl
    have t35 : tyq31 bt = 114 := gSg.typ xq31 sq18.1 tbt rfl
    have hl36 : hq31.2.2.2.1 bt = hq18.2.2.2.1 bt := gSg.len xq31 sq18.1 tbt rfl
    have t37 : tyq31 c1 = 73 := gSg.typ xq31 sq18.1 tc1 rfl
    have s38 := gSg.at xq31 sq18.1 tx rfl (by decide) s19
    have s39 := gSg.at xq31 sq18.1 tx rfl (by decide) s23
    have s40 := gSg.at xq31 sq18.1 tx rfl (by decide) s24
    have s41 := gSg.at xq31 sq18.1 tx rfl (by decide) s25
    have s42 := gSg.at xq31 sq18.1 tx rfl (by decide) s26
    have s43 := gSg.at xq31 sq18.1 tx rfl (by decide) s27
    have uq44 := gSg.uq xq31 uq (by decide)
    have sS45 : gSs rT 1027 tyq31 [56000, 56001, 56002, 56003, 71012, 97999, 114999] hq31 hq31 := gSs.rf xq31.1
    refine gz_s 2 (pc' := 55) (L' := [some (.ref x), some (.int (zi p)), some (.int (zi z5)), some (.int (zi (z5 - z8))), some (.int (zi zq18))]) (S' := [.int (zi (z5 - z8)), .ref x]) rfl ?_
    by_cases hc46 : (0 : Int) ≤ z5 - z8
    · refine gy_ifT (pc' := 64) rfl (by decide) (by decide) (by omega) hc46 ?_
      refine gz_s 2 (pc' := 67) (L' := [some (.ref x), some (.int (zi p)), some (.int (zi z5)), some (.int (zi (z5 - z8))), some (.int (zi zq18))]) (S' := [.int (zi zq18), .int (zi (z5 - z8)), .ref x]) rfl ?_
      have hl47 : hq31.2.2.2.1 cq31_0 = hq31.2.2.2.1 cq31_0 := congrFun sS45.2.2.2.2.1 cq31_0
      refine gz_call rfl (by decide) rfl (by decide) (by decide) (gcal_of rfl rfl rfl (Nat.le_of_ble_eq_true rfl) (gJ.recv (G := gGG) sS45.1 t33 rfl rfl)) (cl_Writer_putPlain _ sS45.1 x t33 (z5 - z8) (by omega) zq18 (by omega) sk s38 t34 cq31_0 ecq31_0 tcq31_0 fq31_0 efq31_0 (by omega) fq31_1 efq31_1 (by omega) cg s39 (by omega) (by omega) (by omega) uq44) (fun q48 _ wq48 => ?_)
      obtain ⟨pq48, oq48, hq48⟩ := q48
      obtain ⟨tyq48, xq48, cq48_0, ttq48, fq48_0, fq48_1, ecq48_0, tcq48_0, gq48, efq48_0, afq48_0, bfq48_0, efq48_1, afq48_1, bfq48_1, uq48_0, uq48_1, uq48_2, uq48_3, uq48_4, uq48_5, uq48_6⟩ := wq48
      dsimp only at uq48_3 uq48_4 uq48_5 uq48_6
      refine ⟨_, gq48, ?_⟩
      show gz gPP gGG gcn _ _ 70 [some (.ref x), some (.int (zi p)), some (.int (zi z5)), some (.int (zi (z5 - z8))), some (.int (zi zq18))] [] hq48 _
      have G49 : gSg [114] [] [56000, 56001, 56002, 56003, 71012, 97999, 114999] ty h tyq48 hq48 := gSg.tr (gSg.ss G32 sS45 (by decide)) xq48 (by decide) (by decide) (fun x hx => by cases hx)
      have t50 : tyq48 x = 71 := gSg.typ xq48 sS45.1 t33 rfl
      have t51 : tyq48 sk = 56 := gSg.typ xq48 sS45.1 t34 rfl
      have t52 : tyq48 bt = 114 := gSg.typ xq48 sS45.1 t35 rfl
      have hl53 : hq48.2.2.2.1 bt = hq31.2.2.2.1 bt := gSg.len xq48 sS45.1 t35 rfl
      have t54 : tyq48 c1 = 73 := gSg.typ xq48 sS45.1 t37 rfl
      have t55 : tyq48 cq31_0 = 114 := gSg.typ xq48 sS45.1 tcq31_0 rfl
      have hl56 : hq48.2.2.2.1 cq31_0 = hq31.2.2.2.1 cq31_0 := gSg.len xq48 sS45.1 tcq31_0 rfl
      have s57 := gSg.at xq48 sS45.1 t33 rfl (by decide) s38
      have s58 := gSg.at xq48 sS45.1 t33 rfl (by decide) s39
      have s59 := gSg.at xq48 sS45.1 t33 rfl (by decide) s40
      have s60 := gSg.at xq48 sS45.1 t33 rfl (by decide) s41
      have s61 := gSg.at xq48 sS45.1 t33 rfl (by decide) s42
      have s62 := gSg.at xq48 sS45.1 t33 rfl (by decide) s43
      have uq63 := gSg.uq xq48 uq44 (by decide)
      have sS64 : gSs rT 1027 tyq48 [56000, 56001, 56002, 56003, 71012, 97999, 114999] hq48 hq48 := gSs.rf xq48.1
      have G65 : gSg [114] [] [56000, 56001, 56002, 56003, 71012, 97999, 114999] ty h tyq48 hq48 := gSg.ss G49 sS64 (by decide)
      exact gz_end (I := .return_) (len := 1) rfl (Or.inl rfl) ⟨tyq48, G65, cq48_0, trivial, fq48_0, fq48_1, ecq48_0, tcq48_0, rfl, efq48_0, (by omega), (by omega), efq48_1, (by omega), (by omega), (by omega), (by omega), (by omega), (by dsimp only; omega), (by dsimp only; omega), (by dsimp only; omega), (by dsimp only; omega)⟩
    · refine gy_ifF rfl (by decide) (by decide) (by omega) hc46 ?_
      refine gy_s 5 (pc' := 67) (L' := [some (.ref x), some (.int (zi p)), some (.int (zi z5)), some (.int (zi (z5 - z8))), some (.int (zi zq18))]) (S' := [.int (zi zq18), .int ((zi (z5 - z8)) - (zi 1)), .ref x]) (L2 := [some (.ref x), some (.int (zi p)), some (.int (zi z5)), some (.int (zi (z5 - z8))), some (.int (zi zq18))]) (S2 := [.int (zi zq18), .int (zi ((z5 - z8) - 1)), .ref x]) rfl (by simp only [zi_add, zi_sub, zi_mul, zi_neg, zi_and1, zi_and7, zi_and15, zi_and31, zi_and255]) (by simp only [zi_add, zi_sub, zi_mul, zi_neg, zi_and1, zi_and7, zi_and15, zi_and31, zi_and255]) ?_
      have hl66 : hq31.2.2.2.1 cq31_0 = hq31.2.2.2.1 cq31_0 := congrFun sS45.2.2.2.2.1 cq31_0
      refine gz_call rfl (by decide) rfl (by decide) (by decide) (gcal_of rfl rfl rfl (Nat.le_of_ble_eq_true rfl) (gJ.recv (G := gGG) sS45.1 t33 rfl rfl)) (cl_Writer_putPlain _ sS45.1 x t33 ((z5 - z8) - 1) (by omega) zq18 (by omega) sk s38 t34 cq31_0 ecq31_0 tcq31_0 fq31_0 efq31_0 (by omega) fq31_1 efq31_1 (by omega) cg s39 (by omega) (by omega) (by omega) uq44) (fun q67 _ wq67 => ?_)
      obtain ⟨pq67, oq67, hq67⟩ := q67
      obtain ⟨tyq67, xq67, cq67_0, ttq67, fq67_0, fq67_1, ecq67_0, tcq67_0, gq67, efq67_0, afq67_0, bfq67_0, efq67_1, afq67_1, bfq67_1, uq67_0, uq67_1, uq67_2, uq67_3, uq67_4, uq67_5, uq67_6⟩ := wq67
      dsimp only at uq67_3 uq67_4 uq67_5 uq67_6
      refine ⟨_, gq67, ?_⟩
      show gz gPP gGG gcn _ _ 70 [some (.ref x), some (.int (zi p)), some (.int (zi z5)), some (.int (zi (z5 - z8))), some (.int (zi zq18))] [] hq67 _
      have G68 : gSg [114] [] [56000, 56001, 56002, 56003, 71012, 97999, 114999] ty h tyq67 hq67 := gSg.tr (gSg.ss G32 sS45 (by decide)) xq67 (by decide) (by decide) (fun x hx => by cases hx)
      have t69 : tyq67 x = 71 := gSg.typ xq67 sS45.1 t33 rfl
      have t70 : tyq67 sk = 56 := gSg.typ xq67 sS45.1 t34 rfl
      have t71 : tyq67 bt = 114 := gSg.typ xq67 sS45.1 t35 rfl
      have hl72 : hq67.2.2.2.1 bt = hq31.2.2.2.1 bt := gSg.len xq67 sS45.1 t35 rfl
      have t73 : tyq67 c1 = 73 := gSg.typ xq67 sS45.1 t37 rfl
      have t74 : tyq67 cq31_0 = 114 := gSg.typ xq67 sS45.1 tcq31_0 rfl
      have hl75 : hq67.2.2.2.1 cq31_0 = hq31.2.2.2.1 cq31_0 := gSg.len xq67 sS45.1 tcq31_0 rfl
      have s76 := gSg.at xq67 sS45.1 t33 rfl (by decide) s38
      have s77 := gSg.at xq67 sS45.1 t33 rfl (by decide) s39
      have s78 := gSg.at xq67 sS45.1 t33 rfl (by decide) s40
      have s79 := gSg.at xq67 sS45.1 t33 rfl (by decide) s41
      have s80 := gSg.at xq67 sS45.1 t33 rfl (by decide) s42
      have s81 := gSg.at xq67 sS45.1 t33 rfl (by decide) s43
      have uq82 := gSg.uq xq67 uq44 (by decide)
      have sS83 : gSs rT 1027 tyq67 [56000, 56001, 56002, 56003, 71012, 97999, 114999] hq67 hq67 := gSs.rf xq67.1
      have G84 : gSg [114] [] [56000, 56001, 56002, 56003, 71012, 97999, 114999] ty h tyq67 hq67 := gSg.ss G68 sS83 (by decide)
      exact gz_end (I := .return_) (len := 1) rfl (Or.inl rfl) ⟨tyq67, G84, cq67_0, trivial, fq67_0, fq67_1, ecq67_0, tcq67_0, rfl, efq67_0, (by omega), (by omega), efq67_1, (by omega), (by omega), (by omega), (by omega), (by omega), (by dsimp only; omega), (by dsimp only; omega), (by dsimp only; omega), (by dsimp only; omega)⟩
  · refine gy_ifF rfl (by decide) (by decide) (by omega) hc7 ?_
    refine gy_s 5 (pc' := 24) (L' := [some (.ref x), some (.int (zi p)), some (.int (zi z5)), none, none]) (S' := [.int (zi 1), .int ((zi z5) &&& (zi 1)), .ref x]) (L2 := [some (.ref x), some (.int (zi p)), some (.int (zi z5)), none, none]) (S2 := [.int (zi 1), .int (zi (z5 % 2)), .ref x]) rfl (by simp only [zi_add, zi_sub, zi_mul, zi_neg, zi_and1, zi_and7, zi_and15, zi_and31, zi_and255]) (by simp only [zi_add, zi_sub, zi_mul, zi_neg, zi_and1, zi_and7, zi_and15, zi_and31, zi_and255]) ?_
    have hl85 : h.2.2.2.1 bt = h.2.2.2.1 bt := congrFun hS.2.2.2.2.1 bt
    refine gz_call rfl (by decide) rfl (by decide) (by decide) (gcal_of rfl rfl rfl (Nat.le_of_ble_eq_true rfl) (gJ.recv (G := gGG) hS.1 tx rfl rfl)) (cl_Writer_putPlain _ hS.1 x tx (z5 % 2) (by omega) 1 (by omega) sk esk tsk bt ebt tbt c0 ec0 (by omega) h0 eh0 (by omega) cg ecg (by omega) (by omega) (by omega) uq) (fun q86 _ wq86 => ?_)
    obtain ⟨pq86, oq86, hq86⟩ := q86
    obtain ⟨tyq86, xq86, cq86_0, ttq86, fq86_0, fq86_1, ecq86_0, tcq86_0, gq86, efq86_0, afq86_0, bfq86_0, efq86_1, afq86_1, bfq86_1, uq86_0, uq86_1, uq86_2, uq86_3, uq86_4, uq86_5, uq86_6⟩ := wq86
    dsimp only at uq86_3 uq86_4 uq86_5 uq86_6
    refine ⟨_, gq86, ?_⟩
    show gz gPP gGG gcn _ _ 27 [some (.ref x), some (.int (zi p)), some (.int (zi z5)), none, none] [] hq86 _
    have G87 : gSg [114] [] [56000, 56001, 56002, 56003, 71012, 97999, 114999] ty h tyq86 hq86 := gSg.tr (gSg.ss G0 hS (by decide)) xq86 (by decide) (by decide) (fun x hx => by cases hx)
    have t88 : tyq86 x = 71 := gSg.typ xq86 hS.1 tx rfl
    have t89 : tyq86 sk = 56 := gSg.typ xq86 hS.1 tsk rfl
    have t90 : tyq86 bt = 114 := gSg.typ xq86 hS.1 tbt rfl
    have hl91 : hq86.2.2.2.1 bt = h.2.2.2.1 bt := gSg.len xq86 hS.1 tbt rfl
    have t92 : tyq86 c1 = 73 := gSg.typ xq86 hS.1 tc1 rfl
    have s93 := gSg.at xq86 hS.1 tx rfl (by decide) esk
    have s94 := gSg.at xq86 hS.1 tx rfl (by decide) ecg
    have s95 := gSg.at xq86 hS.1 tx rfl (by decide) ec1
    have s96 := gSg.at xq86 hS.1 tx rfl (by decide) ez4
    have s97 := gSg.at xq86 hS.1 tx rfl (by decide) ez6
    have uq98 := gSg.uq xq86 uq (by decide)
    have sS99 : gSs rT 1027 tyq86 [56000, 56001, 56002, 56003, 71012, 97999, 114999] hq86 hq86 := gSs.rf xq86.1
    have G100 : gSg [114] [] [56000, 56001, 56002, 56003, 71012, 97999, 114999] ty h tyq86 hq86 := gSg.ss G87 sS99 (by decide)
    exact gz_end (I := .return_) (len := 1) rfl (Or.inl rfl) ⟨tyq86, G100, cq86_0, trivial, fq86_0, fq86_1, ecq86_0, tcq86_0, rfl, efq86_0, (by omega), (by omega), efq86_1, (by omega), (by omega), (by omega), (by omega), (by omega), (by dsimp only; omega), (by dsimp only; omega), (by dsimp only; omega), (by dsimp only; omega)⟩
