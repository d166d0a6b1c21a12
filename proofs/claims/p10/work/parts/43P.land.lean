/-! ===== methods of the landed text (by program) ===== -/
theorem zl_sh26 : ∀ k : Fin 256, zl (k.val : Int) <<< ((zi 26).toInt64 &&& 63) = zl ((k.val : Int) * 67108864) := by decide +kernel
section GLS
variable {P : Nat → Option gMt} {G : gG} {cn : Nat → Option Nat} {d : Nat} {t : gMt} {pc : Nat} {L : gL} {S : List Value} {h : gH} {F : gR → gL → Prop}
theorem gy_lsh26 {x : Int} (hlk : glk pc (gmC t) = some (.lshl, 1)) (hx : ¬ pc ∈ gmE t) (ha : 0 ≤ x ∧ x < 256) (k : gz P G cn d t (pc + 1) L (.long (zl (x * 67108864)) :: S) h F) : gz P G cn d t pc L (.int (zi 26) :: .long (zl x) :: S) h F := by
  obtain ⟨n, rfl⟩ := Int.eq_ofNat_of_zero_le ha.1
  refine gz_0 hlk (fun q => q.elim (fun z => by cases z) hx) rfl ?_ k
  simp only [gst0, gLI]
  rw [if_pos trivial, zl_sh26 ⟨n, by omega⟩]
end GLS
theorem zdv {a m : Int} (ha : 0 ≤ a ∧ a ≤ 137438953472) (hm : 1 ≤ m ∧ m ≤ 255) : 0 ≤ (a + m * 67108864 / 2) / (m * 67108864) ∧ (a + m * 67108864 / 2) / (m * 67108864) ≤ 2048 := by
  refine ⟨Int.ediv_nonneg (by omega) (by omega), ?_⟩
  exact Int.le_of_lt_add_one (Int.ediv_lt_of_lt_mul (by omega) (by omega))
def gLc (ty : Nat → Nat) (p a k ln lw : Int) (h : gH) : Prop := ∀ j : Int, a ≤ j → j < k → ∀ (c : Nat) (z : Int), ty c = 73 → h.2.2.2.2 c (p + j).toNat = .int (zi z) → -2147483648 ≤ z → z ≤ 2147483647 → (if z < 0 then -z else z) / 2 ^ lw.toNat = 1 → j ≤ ln
theorem gLc.fr {ty : Nat → Nat} {p a k ln lw : Int} {h h' : gH} {l : List Nat} (g : gFr rT ty l h h') (hl : ∀ x ∈ ([73999] : List Nat), ¬ x ∈ l) (s : gLc ty p a k ln lw h) : gLc ty p a k ln lw h' := fun j h1 h2 c z hc e => s j h1 h2 c z hc ((g.2.2.2.2 c _ (by rw [hc]; exact hl _ (List.mem_singleton.mpr rfl))).symm.trans e)
theorem gLc.pt {ty : Nat → Nat} {p a k ln lw : Int} {c9 j9 q2 : Nat} {h h' : gH} (g : ∀ x n, ¬ (x = c9 ∧ n = j9) → h'.2.2.2.2 x n = h.2.2.2.2 x n) (ht : ty c9 = q2) (hq : ∀ x ∈ ([73] : List Nat), q2 ≠ x) (s : gLc ty p a k ln lw h) : gLc ty p a k ln lw h' := fun j h1 h2 c z hc e => s j h1 h2 c z hc ((g c _ (fun w => hq 73 (List.mem_singleton.mpr rfl) (by rw [← ht, ← hc, w.1]))).symm.trans e)
theorem gLc.gr {nk X l : List Nat} {ty ty2 : Nat → Nat} {p a k ln lw : Int} {h h2 : gH} (g : gSg nk X l ty h ty2 h2) (hJ : gJ rT 1027 ty h) (hn : ∀ x ∈ ([73] : List Nat), ¬ x ∈ nk) (hl : ∀ x ∈ ([73999] : List Nat), ¬ x ∈ l) (s : gLc ty p a k ln lw h) : gLc ty2 p a k ln lw h2 := fun j h1 h2 c z hc e => by
  have hc1 := g.old hc (hn _ (List.mem_singleton.mpr rfl))
  have e1 := g.at (k := (p + j).toNat) hJ hc1 rfl (hl _ (List.mem_singleton.mpr rfl)) rfl
  exact s j h1 h2 c z hc1 (e1.symm.trans e)
def gLq (ty : Nat → Nat) (p a k ln lw z9 : Int) (h : gH) : Prop := gLc ty p a k ln lw h ∧ (-2147483648 ≤ z9 ∧ z9 ≤ 2147483647) ∧ ∀ c : Nat, ty c = 73 → h.2.2.2.2 c (p + k).toNat = .int (zi z9)
theorem gLq.fr {ty : Nat → Nat} {p a k ln lw z9 : Int} {h h' : gH} {l : List Nat} (g : gFr rT ty l h h') (hl : ∀ x ∈ ([73999] : List Nat), ¬ x ∈ l) (s : gLq ty p a k ln lw z9 h) : gLq ty p a k ln lw z9 h' := ⟨s.1.fr g hl, s.2.1, fun c hc => (g.2.2.2.2 c _ (by rw [hc]; exact hl _ (List.mem_singleton.mpr rfl))).trans (s.2.2 c hc)⟩
theorem gLq.pt {ty : Nat → Nat} {p a k ln lw z9 : Int} {c9 j9 q2 : Nat} {h h' : gH} (g : ∀ x n, ¬ (x = c9 ∧ n = j9) → h'.2.2.2.2 x n = h.2.2.2.2 x n) (ht : ty c9 = q2) (hq : ∀ x ∈ ([73] : List Nat), q2 ≠ x) (s : gLq ty p a k ln lw z9 h) : gLq ty p a k ln lw z9 h' := ⟨s.1.pt g ht hq, s.2.1, fun c hc => (g c _ (fun w => hq 73 (List.mem_singleton.mpr rfl) (by rw [← ht, ← hc, w.1]))).trans (s.2.2 c hc)⟩
theorem gLq.step {ty : Nat → Nat} {p a k ln ln2 lw z9 : Int} {h : gH} (s : gLq ty p a k ln lw z9 h) (h1 : ln ≤ ln2) (h2 : (if z9 < 0 then -z9 else z9) / 2 ^ lw.toNat = 1 → k ≤ ln2) (hk : ∃ c, ty c = 73) : gLc ty p a (k + 1) ln2 lw h := by
  intro j j1 j2 c z hc e z1 z2 w
  by_cases hj : j = k
  · have e2 := s.2.2 c hc
    rw [← hj] at e2
    have e3 := gv_i e e2 (by omega) (by have := s.2.1; omega)
    rw [e3] at w
    have := h2 w
    omega
  · have := s.1 j j1 (by omega) c z hc e z1 z2 w
    omega
set_option maxRecDepth 20000 in
set_option maxHeartbeats 4000000 in
theorem cl_putSymbol0 (d : Nat) {ty : Nat → Nat} {h : gH} (hJ : gJ rT 1027 ty h) (x : Nat) (tx : ty x = 71) (kd : Int) (rkd : 0 ≤ kd ∧ kd ≤ 0) (sy : Int) (rsy : 0 ≤ sy ∧ sy ≤ 256) (sk : Nat) (esk : h.2.2.2.2 x 0 = .ref sk) (tsk : ty sk = 56) (bt : Nat) (ebt : h.2.2.2.2 sk 0 = .ref bt) (tbt : ty bt = 114) (c0 : Int) (ec0 : h.2.2.2.2 sk 1 = .int (zi c0)) (rc0 : 0 ≤ c0 ∧ c0 ≤ 499999) (h0 : Int) (eh0 : h.2.2.2.2 sk 3 = .int (zi h0)) (rh0 : 0 ≤ h0 ∧ h0 ≤ 7) (cg : Int) (ecg : h.2.2.2.2 x 11 = .int (zi cg)) (rcg : 0 ≤ cg ∧ cg ≤ 1) (pp0 : 4 * c0 + h0 + 300 ≤ 1999990) (pp1 : c0 ≤ (h.2.2.2.1 bt : Int)) (uq : gUq ty) : gz gPP gGG gcn (d + 4) gt115 0 (gent [.ref x, .int (zi kd), .int (zi sy)] 4) [] h (fun q _ => ∃ ty9 : Nat → Nat, gSg [114] [] [56000, 56001, 56002, 56003, 97999, 114999] ty h ty9 q.2.2 ∧ ∃ bt2 : Nat, True ∧ ∃ c1 h1 : Int, q.2.2.2.2.2.2 sk 0 = .ref bt2 ∧ ty9 bt2 = 114 ∧ gfin gt115 q.1 q.2.1 = some none ∧ q.2.2.2.2.2.2 sk 1 = .int (zi c1) ∧ 0 ≤ c1 ∧ c1 ≤ 500000 ∧ q.2.2.2.2.2.2 sk 3 = .int (zi h1) ∧ 0 ≤ h1 ∧ h1 ≤ 7 ∧ (4 * c1 + h1 ≤ 4 * c0 + h0 + 300) ∧ (c0 ≤ c1) ∧ (cg = 1 → (c1 = c0 ∧ h1 = h0)) ∧ (1024 * ((q.2.2.1 : Int) - h.1) ≤ (q.2.2.2.2.2.1 bt2 : Int) - h.2.2.2.1 bt) ∧ (((q.2.2.2.1 : Int) - h.2.1) ≤ 2 * ((q.2.2.2.2.2.1 bt2 : Int) - h.2.2.2.1 bt)) ∧ ((h.2.2.2.1 bt : Int) ≤ (q.2.2.2.2.2.1 bt2 : Int)) ∧ (c1 ≤ (q.2.2.2.2.2.1 bt2 : Int))) := by
  have hS : gSs rT 1027 ty [56000, 56001, 56002, 56003, 97999, 114999] h h := gSs.rf hJ
  have G0 : gSg [114] [] [56000, 56001, 56002, 56003, 97999, 114999] ty h ty h := gSg.rf hJ (fun x hx => by cases hx)
  refine gz_s 1 (pc' := 1) (L' := [some (.ref x), some (.int (zi kd)), some (.int (zi sy)), none]) (S' := [.ref x]) rfl ?_
  refine gs_gtr rfl (by decide) rfl hS.1 tx rfl rfl rfl (fun c1 ec1 tc1 => ?_)
  refine gz_s 1 (pc' := 5) (L' := [some (.ref x), some (.int (zi kd)), some (.int (zi sy)), none]) (S' := [.int (zi kd), .ref c1]) rfl ?_
  have he4 : (kd : Int) = 0 := by omega
  refine gs_aal (j := 0) (q2 := 91) rfl (by decide) hS.1 tc1 rfl rfl rfl (by decide) he4 rfl (by decide) (fun c5 ec5 tc5 => ?_)
  refine gz_s 2 (pc' := 8) (L' := [some (.ref x), some (.int (zi kd)), some (.int (zi sy)), some (.ref c5)]) (S' := [.ref x]) rfl ?_
  refine gs_gtk rfl (by decide) rfl hS.1 tx rfl rfl ecg ?_
  by_cases hc6 : (cg : Int) = 0
  · refine gy_ifT (pc' := 22) rfl (by decide) (by decide) (by omega) hc6 ?_
    refine gz_s 1 (pc' := 23) (L' := [some (.ref x), some (.int (zi kd)), some (.int (zi sy)), some (.ref c5)]) (S' := [.ref x]) rfl ?_
    refine gs_gtk rfl (by decide) rfl hS.1 tx rfl rfl esk ?_
    refine gz_s 1 (pc' := 27) (L' := [some (.ref x), some (.int (zi kd)), some (.int (zi sy)), some (.ref c5)]) (S' := [.ref c5, .ref sk]) rfl ?_
    refine gs_gtr rfl (by decide) rfl hS.1 tc5 rfl rfl rfl (fun c7 ec7 tc7 => ?_)
    refine gz_s 1 (pc' := 31) (L' := [some (.ref x), some (.int (zi kd)), some (.int (zi sy)), some (.ref c5)]) (S' := [.int (zi sy), .ref c7, .ref sk]) rfl ?_
    have hl8 : 257 ≤ h.2.2.2.1 c7 ∧ h.2.2.2.1 c7 ≤ 257 := gJ.rowl (G := gGG) hS.1 tc7 rfl
    refine gs_ald rfl (by decide) hS.1 tc7 rfl rfl rfl (by decide) (fun _ => rfl) (by omega) (by omega) (fun z9 ez9 az9 bz9 => ?_)
    refine gz_s 1 (pc' := 33) (L' := [some (.ref x), some (.int (zi kd)), some (.int (zi sy)), some (.ref c5)]) (S' := [.ref c5, .int (zi z9), .ref sk]) rfl ?_
    refine gs_gtr rfl (by decide) rfl hS.1 tc5 rfl rfl rfl (fun c10 ec10 tc10 => ?_)
    refine gz_s 1 (pc' := 37) (L' := [some (.ref x), some (.int (zi kd)), some (.int (zi sy)), some (.ref c5)]) (S' := [.int (zi sy), .ref c10, .int (zi z9), .ref sk]) rfl ?_
    have hl11 : 257 ≤ h.2.2.2.1 c10 ∧ h.2.2.2.1 c10 ≤ 257 := gJ.rowl (G := gGG) hS.1 tc10 rfl
    refine gs_ald rfl (by decide) hS.1 tc10 rfl rfl rfl (by decide) (fun _ => rfl) (by omega) (by omega) (fun z12 ez12 az12 bz12 => ?_)
    have hl13 : h.2.2.2.1 bt = h.2.2.2.1 bt := congrFun hS.2.2.2.2.1 bt
    refine gz_call rfl (by decide) rfl (by decide) (by decide) (gcal_of rfl rfl rfl (Nat.le_of_ble_eq_true rfl) (gJ.recv (G := gGG) hS.1 tsk rfl rfl)) (cl_Sink_putBits _ hS.1 sk tsk z9 (by omega) z12 (by omega) bt ebt tbt c0 ec0 (by omega) h0 eh0 (by omega) (by omega) (by omega) uq) (fun q14 _ wq14 => ?_)
    obtain ⟨pq14, oq14, hq14⟩ := q14
    obtain ⟨tyq14, xq14, cq14_0, ttq14, fq14_0, fq14_1, ecq14_0, tcq14_0, gq14, efq14_0, afq14_0, bfq14_0, efq14_1, afq14_1, bfq14_1, uq14_0, uq14_1, uq14_2, uq14_3, uq14_4, uq14_5⟩ := wq14
    dsimp only at uq14_2 uq14_3 uq14_4 uq14_5
    refine ⟨_, gq14, ?_⟩
    show gz gPP gGG gcn _ _ 41 [some (.ref x), some (.int (zi kd)), some (.int (zi sy)), some (.ref c5)] [] hq14 _
    have G15 : gSg [114] [] [56000, 56001, 56002, 56003, 97999, 114999] ty h tyq14 hq14 := gSg.tr (gSg.ss G0 hS (by decide)) xq14 (by decide) (by decide) (fun x hx => by cases hx)
    have t16 : tyq14 x = 71 := gSg.typ xq14 hS.1 tx rfl
    have t17 : tyq14 sk = 56 := gSg.typ xq14 hS.1 tsk rfl
    have t18 : tyq14 bt = 114 := gSg.typ xq14 hS.1 tbt rfl
    have hl19 : hq14.2.2.2.1 bt = h.2.2.2.1 bt := gSg.len xq14 hS.1 tbt rfl
    have t20 : tyq14 c1 = 75 := gSg.typ xq14 hS.1 tc1 rfl
    have t21 : tyq14 c5 = 91 := gSg.typ xq14 hS.1 tc5 rfl
    have t22 : tyq14 c7 = 95 := gSg.typ xq14 hS.1 tc7 rfl
    have t23 : tyq14 c10 = 96 := gSg.typ xq14 hS.1 tc10 rfl
    have s24 := gSg.at xq14 hS.1 tx rfl (by decide) esk
    have s25 := gSg.at xq14 hS.1 tx rfl (by decide) ecg
    have s26 := gSg.at xq14 hS.1 tx rfl (by decide) ec1
    have s27 := gSg.at xq14 hS.1 tc1 rfl (by decide) ec5
    have s28 := gSg.at xq14 hS.1 tc5 rfl (by decide) ec7
    have s29 := gSg.at xq14 hS.1 tc5 rfl (by decide) ec10
    have uq30 := gSg.uq xq14 uq (by decide)
    have sS31 : gSs rT 1027 tyq14 [56000, 56001, 56002, 56003, 97999, 114999] hq14 hq14 := gSs.rf xq14.1
    have hl32 : 1024 ≤ hq14.2.2.2.1 bt ∧ hq14.2.2.2.1 bt ≤ 1000000 := gJ.rowl (G := gGG) sS31.1 t18 rfl
    have hl33 : 1024 ≤ hq14.2.2.2.1 cq14_0 ∧ hq14.2.2.2.1 cq14_0 ≤ 1000000 := gJ.rowl (G := gGG) sS31.1 tcq14_0 rfl
    have G34 : gSg [114] [] [56000, 56001, 56002, 56003, 97999, 114999] ty h tyq14 hq14 := gSg.ss G15 sS31 (by decide)
    exact gz_end (I := .return_) (len := 1) rfl (Or.inl rfl) ⟨tyq14, G34, cq14_0, trivial, fq14_0, fq14_1, ecq14_0, tcq14_0, rfl, efq14_0, (by omega), (by omega), efq14_1, (by omega), (by omega), (by omega), (by omega), (by omega), (by dsimp only; omega), (by dsimp only; omega), (by dsimp only; omega), (by dsimp only; omega)⟩
  · refine gy_ifF rfl (by decide) (by decide) (by omega) hc6 ?_
    refine gz_s 2 (pc' := 16) (L' := [some (.ref x), some (.int (zi kd)), some (.int (zi sy)), some (.ref c5)]) (S' := [.int (zi sy), .ref c5]) rfl ?_
    refine gz_call rfl (by decide) rfl (by decide) (by decide) (gcal_of rfl rfl rfl (Nat.le_of_ble_eq_true rfl) (gJ.recv (G := gGG) hS.1 tc5 rfl rfl)) (cl_Suited0_countSymbol _ hS.1 c5 tc5 sy (by omega) uq) (fun q35 _ wq35 => ?_)
    obtain ⟨pq35, oq35, hq35⟩ := q35
    obtain ⟨xq35, gq35⟩ := wq35
    refine ⟨_, gq35, ?_⟩
    show gz gPP gGG gcn _ _ 19 [some (.ref x), some (.int (zi kd)), some (.int (zi sy)), some (.ref c5)] [] hq35 _
    have sq35 : gSs rT 1027 ty [56000, 56001, 56002, 56003, 97999, 114999] h hq35 := gSs.tr hS xq35 (by decide)
    have s36 := (xq35.2.2.2.2.2 x 0 (by rw [tx]; decide)).trans esk
    have s37 := (xq35.2.2.2.2.2 sk 0 (by rw [tsk]; decide)).trans ebt
    have s38 := (xq35.2.2.2.2.2 sk 1 (by rw [tsk]; decide)).trans ec0
    have s39 := (xq35.2.2.2.2.2 sk 3 (by rw [tsk]; decide)).trans eh0
    have s40 := (xq35.2.2.2.2.2 x 11 (by rw [tx]; decide)).trans ecg
    have s41 := (xq35.2.2.2.2.2 x 4 (by rw [tx]; decide)).trans ec1
    have s42 := (xq35.2.2.2.2.2 c1 0 (by rw [tc1]; decide)).trans ec5
    refine gz_s 1 (pc' := 41) (L' := [some (.ref x), some (.int (zi kd)), some (.int (zi sy)), some (.ref c5)]) (S' := []) rfl ?_
    have k43 := sq35.2.1
    have k43b := sq35.2.2.1
    have hl44 : hq35.2.2.2.1 bt = h.2.2.2.1 bt := congrFun sq35.2.2.2.2.1 bt
    have hl45 : 1024 ≤ hq35.2.2.2.1 bt ∧ hq35.2.2.2.1 bt ≤ 1000000 := gJ.rowl (G := gGG) sq35.1 tbt rfl
    have G46 : gSg [114] [] [56000, 56001, 56002, 56003, 97999, 114999] ty h ty hq35 := gSg.ss G0 sq35 (by decide)
    exact gz_end (I := .return_) (len := 1) rfl (Or.inl rfl) ⟨ty, G46, bt, trivial, c0, h0, s37, tbt, rfl, s38, (by omega), (by omega), s39, (by omega), (by omega), (by omega), (by omega), (by omega), (by dsimp only; omega), (by dsimp only; omega), (by dsimp only; omega), (by dsimp only; omega)⟩
set_option maxRecDepth 20000 in
set_option maxHeartbeats 4000000 in
theorem cl_putSymbol1 (d : Nat) {ty : Nat → Nat} {h : gH} (hJ : gJ rT 1027 ty h) (x : Nat) (tx : ty x = 71) (kd : Int) (rkd : 1 ≤ kd ∧ kd ≤ 1) (sy : Int) (rsy : 0 ≤ sy ∧ sy ≤ 256) (sk : Nat) (esk : h.2.2.2.2 x 0 = .ref sk) (tsk : ty sk = 56) (bt : Nat) (ebt : h.2.2.2.2 sk 0 = .ref bt) (tbt : ty bt = 114) (c0 : Int) (ec0 : h.2.2.2.2 sk 1 = .int (zi c0)) (rc0 : 0 ≤ c0 ∧ c0 ≤ 499999) (h0 : Int) (eh0 : h.2.2.2.2 sk 3 = .int (zi h0)) (rh0 : 0 ≤ h0 ∧ h0 ≤ 7) (cg : Int) (ecg : h.2.2.2.2 x 11 = .int (zi cg)) (rcg : 0 ≤ cg ∧ cg ≤ 1) (pp0 : 4 * c0 + h0 + 300 ≤ 1999990) (pp1 : c0 ≤ (h.2.2.2.1 bt : Int)) (uq : gUq ty) : gz gPP gGG gcn (d + 4) gt115 0 (gent [.ref x, .int (zi kd), .int (zi sy)] 4) [] h (fun q _ => ∃ ty9 : Nat → Nat, gSg [114] [] [56000, 56001, 56002, 56003, 80999, 114999] ty h ty9 q.2.2 ∧ ∃ bt2 : Nat, True ∧ ∃ c1 h1 : Int, q.2.2.2.2.2.2 sk 0 = .ref bt2 ∧ ty9 bt2 = 114 ∧ gfin gt115 q.1 q.2.1 = some none ∧ q.2.2.2.2.2.2 sk 1 = .int (zi c1) ∧ 0 ≤ c1 ∧ c1 ≤ 500000 ∧ q.2.2.2.2.2.2 sk 3 = .int (zi h1) ∧ 0 ≤ h1 ∧ h1 ≤ 7 ∧ (4 * c1 + h1 ≤ 4 * c0 + h0 + 300) ∧ (c0 ≤ c1) ∧ (cg = 1 → (c1 = c0 ∧ h1 = h0)) ∧ (1024 * ((q.2.2.1 : Int) - h.1) ≤ (q.2.2.2.2.2.1 bt2 : Int) - h.2.2.2.1 bt) ∧ (((q.2.2.2.1 : Int) - h.2.1) ≤ 2 * ((q.2.2.2.2.2.1 bt2 : Int) - h.2.2.2.1 bt)) ∧ ((h.2.2.2.1 bt : Int) ≤ (q.2.2.2.2.2.1 bt2 : Int)) ∧ (c1 ≤ (q.2.2.2.2.2.1 bt2 : Int))) := by
  have hS : gSs rT 1027 ty [56000, 56001, 56002, 56003, 80999, 114999] h h := gSs.rf hJ
  have G0 : gSg [114] [] [56000, 56001, 56002, 56003, 80999, 114999] ty h ty h := gSg.rf hJ (fun x hx => by cases hx)
  refine gz_s 1 (pc' := 1) (L' := [some (.ref x), some (.int (zi kd)), some (.int (zi sy)), none]) (S' := [.ref x]) rfl ?_
  refine gs_gtr rfl (by decide) rfl hS.1 tx rfl rfl rfl (fun c1 ec1 tc1 => ?_)
  refine gz_s 1 (pc' := 5) (L' := [some (.ref x), some (.int (zi kd)), some (.int (zi sy)), none]) (S' := [.int (zi kd), .ref c1]) rfl ?_
  have he4 : (kd : Int) = 1 := by omega
  refine gs_aal (j := 1) (q2 := 92) rfl (by decide) hS.1 tc1 rfl rfl rfl (by decide) he4 rfl (by decide) (fun c5 ec5 tc5 => ?_)
  refine gz_s 2 (pc' := 8) (L' := [some (.ref x), some (.int (zi kd)), some (.int (zi sy)), some (.ref c5)]) (S' := [.ref x]) rfl ?_
  refine gs_gtk rfl (by decide) rfl hS.1 tx rfl rfl ecg ?_
  by_cases hc6 : (cg : Int) = 0
  · refine gy_ifT (pc' := 22) rfl (by decide) (by decide) (by omega) hc6 ?_
    refine gz_s 1 (pc' := 23) (L' := [some (.ref x), some (.int (zi kd)), some (.int (zi sy)), some (.ref c5)]) (S' := [.ref x]) rfl ?_
    refine gs_gtk rfl (by decide) rfl hS.1 tx rfl rfl esk ?_
    refine gz_s 1 (pc' := 27) (L' := [some (.ref x), some (.int (zi kd)), some (.int (zi sy)), some (.ref c5)]) (S' := [.ref c5, .ref sk]) rfl ?_
    refine gs_gtr rfl (by decide) rfl hS.1 tc5 rfl rfl rfl (fun c7 ec7 tc7 => ?_)
    refine gz_s 1 (pc' := 31) (L' := [some (.ref x), some (.int (zi kd)), some (.int (zi sy)), some (.ref c5)]) (S' := [.int (zi sy), .ref c7, .ref sk]) rfl ?_
    have hl8 : 257 ≤ h.2.2.2.1 c7 ∧ h.2.2.2.1 c7 ≤ 257 := gJ.rowl (G := gGG) hS.1 tc7 rfl
    refine gs_ald rfl (by decide) hS.1 tc7 rfl rfl rfl (by decide) (fun _ => rfl) (by omega) (by omega) (fun z9 ez9 az9 bz9 => ?_)
    refine gz_s 1 (pc' := 33) (L' := [some (.ref x), some (.int (zi kd)), some (.int (zi sy)), some (.ref c5)]) (S' := [.ref c5, .int (zi z9), .ref sk]) rfl ?_
    refine gs_gtr rfl (by decide) rfl hS.1 tc5 rfl rfl rfl (fun c10 ec10 tc10 => ?_)
    refine gz_s 1 (pc' := 37) (L' := [some (.ref x), some (.int (zi kd)), some (.int (zi sy)), some (.ref c5)]) (S' := [.int (zi sy), .ref c10, .int (zi z9), .ref sk]) rfl ?_
    have hl11 : 257 ≤ h.2.2.2.1 c10 ∧ h.2.2.2.1 c10 ≤ 257 := gJ.rowl (G := gGG) hS.1 tc10 rfl
    refine gs_ald rfl (by decide) hS.1 tc10 rfl rfl rfl (by decide) (fun _ => rfl) (by omega) (by omega) (fun z12 ez12 az12 bz12 => ?_)
    have hl13 : h.2.2.2.1 bt = h.2.2.2.1 bt := congrFun hS.2.2.2.2.1 bt
    refine gz_call rfl (by decide) rfl (by decide) (by decide) (gcal_of rfl rfl rfl (Nat.le_of_ble_eq_true rfl) (gJ.recv (G := gGG) hS.1 tsk rfl rfl)) (cl_Sink_putBits _ hS.1 sk tsk z9 (by omega) z12 (by omega) bt ebt tbt c0 ec0 (by omega) h0 eh0 (by omega) (by omega) (by omega) uq) (fun q14 _ wq14 => ?_)
    obtain ⟨pq14, oq14, hq14⟩ := q14
    obtain ⟨tyq14, xq14, cq14_0, ttq14, fq14_0, fq14_1, ecq14_0, tcq14_0, gq14, efq14_0, afq14_0, bfq14_0, efq14_1, afq14_1, bfq14_1, uq14_0, uq14_1, uq14_2, uq14_3, uq14_4, uq14_5⟩ := wq14
    dsimp only at uq14_2 uq14_3 uq14_4 uq14_5
    refine ⟨_, gq14, ?_⟩
    show gz gPP gGG gcn _ _ 41 [some (.ref x), some (.int (zi kd)), some (.int (zi sy)), some (.ref c5)] [] hq14 _
    have G15 : gSg [114] [] [56000, 56001, 56002, 56003, 80999, 114999] ty h tyq14 hq14 := gSg.tr (gSg.ss G0 hS (by decide)) xq14 (by decide) (by decide) (fun x hx => by cases hx)
    have t16 : tyq14 x = 71 := gSg.typ xq14 hS.1 tx rfl
    have t17 : tyq14 sk = 56 := gSg.typ xq14 hS.1 tsk rfl
    have t18 : tyq14 bt = 114 := gSg.typ xq14 hS.1 tbt rfl
    have hl19 : hq14.2.2.2.1 bt = h.2.2.2.1 bt := gSg.len xq14 hS.1 tbt rfl
    have t20 : tyq14 c1 = 75 := gSg.typ xq14 hS.1 tc1 rfl
    have t21 : tyq14 c5 = 92 := gSg.typ xq14 hS.1 tc5 rfl
    have t22 : tyq14 c7 = 78 := gSg.typ xq14 hS.1 tc7 rfl
    have t23 : tyq14 c10 = 79 := gSg.typ xq14 hS.1 tc10 rfl
    have s24 := gSg.at xq14 hS.1 tx rfl (by decide) esk
    have s25 := gSg.at xq14 hS.1 tx rfl (by decide) ecg
    have s26 := gSg.at xq14 hS.1 tx rfl (by decide) ec1
    have s27 := gSg.at xq14 hS.1 tc1 rfl (by decide) ec5
    have s28 := gSg.at xq14 hS.1 tc5 rfl (by decide) ec7
    have s29 := gSg.at xq14 hS.1 tc5 rfl (by decide) ec10
    have uq30 := gSg.uq xq14 uq (by decide)
    have sS31 : gSs rT 1027 tyq14 [56000, 56001, 56002, 56003, 80999, 114999] hq14 hq14 := gSs.rf xq14.1
    have hl32 : 1024 ≤ hq14.2.2.2.1 bt ∧ hq14.2.2.2.1 bt ≤ 1000000 := gJ.rowl (G := gGG) sS31.1 t18 rfl
    have hl33 : 1024 ≤ hq14.2.2.2.1 cq14_0 ∧ hq14.2.2.2.1 cq14_0 ≤ 1000000 := gJ.rowl (G := gGG) sS31.1 tcq14_0 rfl
    have G34 : gSg [114] [] [56000, 56001, 56002, 56003, 80999, 114999] ty h tyq14 hq14 := gSg.ss G15 sS31 (by decide)
    exact gz_end (I := .return_) (len := 1) rfl (Or.inl rfl) ⟨tyq14, G34, cq14_0, trivial, fq14_0, fq14_1, ecq14_0, tcq14_0, rfl, efq14_0, (by omega), (by omega), efq14_1, (by omega), (by omega), (by omega), (by omega), (by omega), (by dsimp only; omega), (by dsimp only; omega), (by dsimp only; omega), (by dsimp only; omega)⟩
  · refine gy_ifF rfl (by decide) (by decide) (by omega) hc6 ?_
    refine gz_s 2 (pc' := 16) (L' := [some (.ref x), some (.int (zi kd)), some (.int (zi sy)), some (.ref c5)]) (S' := [.int (zi sy), .ref c5]) rfl ?_
    refine gz_call rfl (by decide) rfl (by decide) (by decide) (gcal_of rfl rfl rfl (Nat.le_of_ble_eq_true rfl) (gJ.recv (G := gGG) hS.1 tc5 rfl rfl)) (cl_Suited1_countSymbol _ hS.1 c5 tc5 sy (by omega) uq) (fun q35 _ wq35 => ?_)
    obtain ⟨pq35, oq35, hq35⟩ := q35
    obtain ⟨xq35, gq35⟩ := wq35
    refine ⟨_, gq35, ?_⟩
    show gz gPP gGG gcn _ _ 19 [some (.ref x), some (.int (zi kd)), some (.int (zi sy)), some (.ref c5)] [] hq35 _
    have sq35 : gSs rT 1027 ty [56000, 56001, 56002, 56003, 80999, 114999] h hq35 := gSs.tr hS xq35 (by decide)
    have s36 := (xq35.2.2.2.2.2 x 0 (by rw [tx]; decide)).trans esk
    have s37 := (xq35.2.2.2.2.2 sk 0 (by rw [tsk]; decide)).trans ebt
    have s38 := (xq35.2.2.2.2.2 sk 1 (by rw [tsk]; decide)).trans ec0
    have s39 := (xq35.2.2.2.2.2 sk 3 (by rw [tsk]; decide)).trans eh0
    have s40 := (xq35.2.2.2.2.2 x 11 (by rw [tx]; decide)).trans ecg
    have s41 := (xq35.2.2.2.2.2 x 4 (by rw [tx]; decide)).trans ec1
    have s42 := (xq35.2.2.2.2.2 c1 1 (by rw [tc1]; decide)).trans ec5
    refine gz_s 1 (pc' := 41) (L' := [some (.ref x), some (.int (zi kd)), some (.int (zi sy)), some (.ref c5)]) (S' := []) rfl ?_
    have k43 := sq35.2.1
    have k43b := sq35.2.2.1
    have hl44 : hq35.2.2.2.1 bt = h.2.2.2.1 bt := congrFun sq35.2.2.2.2.1 bt
    have hl45 : 1024 ≤ hq35.2.2.2.1 bt ∧ hq35.2.2.2.1 bt ≤ 1000000 := gJ.rowl (G := gGG) sq35.1 tbt rfl
    have G46 : gSg [114] [] [56000, 56001, 56002, 56003, 80999, 114999] ty h ty hq35 := gSg.ss G0 sq35 (by decide)
    exact gz_end (I := .return_) (len := 1) rfl (Or.inl rfl) ⟨ty, G46, bt, trivial, c0, h0, s37, tbt, rfl, s38, (by omega), (by omega), s39, (by omega), (by omega), (by omega), (by omega), (by omega), (by dsimp only; omega), (by dsimp only; omega), (by dsimp only; omega), (by dsimp only; omega)⟩
set_option maxRecDepth 20000 in
set_option maxHeartbeats 4000000 in
theorem cl_Writer_putPlain (d : Nat) {ty : Nat → Nat} {h : gH} (hJ : gJ rT 1027 ty h) (x : Nat) (tx : ty x = 71) (v : Int) (rv : (-2147483648) ≤ v ∧ v ≤ 2147483647) (n : Int) (rn : 0 ≤ n ∧ n ≤ 40) (sk : Nat) (esk : h.2.2.2.2 x 0 = .ref sk) (tsk : ty sk = 56) (bt : Nat) (ebt : h.2.2.2.2 sk 0 = .ref bt) (tbt : ty bt = 114) (c0 : Int) (ec0 : h.2.2.2.2 sk 1 = .int (zi c0)) (rc0 : 0 ≤ c0 ∧ c0 ≤ 499999) (h0 : Int) (eh0 : h.2.2.2.2 sk 3 = .int (zi h0)) (rh0 : 0 ≤ h0 ∧ h0 ≤ 7) (cg : Int) (ecg : h.2.2.2.2 x 11 = .int (zi cg)) (rcg : 0 ≤ cg ∧ cg ≤ 1) (pp0 : 4 * c0 + h0 + n ≤ 1999990) (pp1 : c0 ≤ (h.2.2.2.1 bt : Int)) (uq : gUq ty) : gz gPP gGG gcn (d + 4) gt111 0 (gent [.ref x, .int (zi v), .int (zi n)] 3) [] h (fun q _ => ∃ ty9 : Nat → Nat, gSg [114] [] [56000, 56001, 56002, 56003, 114999] ty h ty9 q.2.2 ∧ ∃ bt2 : Nat, True ∧ ∃ c1 h1 : Int, q.2.2.2.2.2.2 sk 0 = .ref bt2 ∧ ty9 bt2 = 114 ∧ gfin gt111 q.1 q.2.1 = some none ∧ q.2.2.2.2.2.2 sk 1 = .int (zi c1) ∧ 0 ≤ c1 ∧ c1 ≤ 500000 ∧ q.2.2.2.2.2.2 sk 3 = .int (zi h1) ∧ 0 ≤ h1 ∧ h1 ≤ 7 ∧ (4 * c1 + h1 ≤ 4 * c0 + h0 + n) ∧ (c0 ≤ c1) ∧ (cg = 1 → (c1 = c0 ∧ h1 = h0)) ∧ (1024 * ((q.2.2.1 : Int) - h.1) ≤ (q.2.2.2.2.2.1 bt2 : Int) - h.2.2.2.1 bt) ∧ (((q.2.2.2.1 : Int) - h.2.1) ≤ 2 * ((q.2.2.2.2.2.1 bt2 : Int) - h.2.2.2.1 bt)) ∧ ((h.2.2.2.1 bt : Int) ≤ (q.2.2.2.2.2.1 bt2 : Int)) ∧ (c1 ≤ (q.2.2.2.2.2.1 bt2 : Int))) := by
  have hS : gSs rT 1027 ty [56000, 56001, 56002, 56003, 114999] h h := gSs.rf hJ
  have G0 : gSg [114] [] [56000, 56001, 56002, 56003, 114999] ty h ty h := gSg.rf hJ (fun x hx => by cases hx)
  refine gz_s 1 (pc' := 1) (L' := [some (.ref x), some (.int (zi v)), some (.int (zi n))]) (S' := [.ref x]) rfl ?_
  refine gs_gtk rfl (by decide) rfl hS.1 tx rfl rfl ecg ?_
  by_cases hc1 : ¬ (cg : Int) = 0
  · refine gy_ifT (pc' := 16) rfl (by decide) (by decide) (by omega) hc1 ?_
    have hl2 : 1024 ≤ h.2.2.2.1 bt ∧ h.2.2.2.1 bt ≤ 1000000 := gJ.rowl (G := gGG) hS.1 tbt rfl
    have G3 : gSg [114] [] [56000, 56001, 56002, 56003, 114999] ty h ty h := gSg.ss G0 hS (by decide)
    exact gz_end (I := .return_) (len := 1) rfl (Or.inl rfl) ⟨ty, G3, bt, trivial, c0, h0, ebt, tbt, rfl, ec0, (by omega), (by omega), eh0, (by omega), (by omega), (by omega), (by omega), (by omega), (by dsimp only; omega), (by dsimp only; omega), (by dsimp only; omega), (by dsimp only; omega)⟩
  · refine gy_ifF rfl (by decide) (by decide) (by omega) hc1 ?_
    refine gz_s 1 (pc' := 8) (L' := [some (.ref x), some (.int (zi v)), some (.int (zi n))]) (S' := [.ref x]) rfl ?_
    refine gs_gtk rfl (by decide) rfl hS.1 tx rfl rfl esk ?_
    refine gz_s 2 (pc' := 13) (L' := [some (.ref x), some (.int (zi v)), some (.int (zi n))]) (S' := [.int (zi n), .int (zi v), .ref sk]) rfl ?_
    have hl4 : h.2.2.2.1 bt = h.2.2.2.1 bt := congrFun hS.2.2.2.2.1 bt
    refine gz_call rfl (by decide) rfl (by decide) (by decide) (gcal_of rfl rfl rfl (Nat.le_of_ble_eq_true rfl) (gJ.recv (G := gGG) hS.1 tsk rfl rfl)) (cl_Sink_putBits _ hS.1 sk tsk v (by omega) n (by omega) bt ebt tbt c0 ec0 (by omega) h0 eh0 (by omega) (by omega) (by omega) uq) (fun q5 _ wq5 => ?_)
    obtain ⟨pq5, oq5, hq5⟩ := q5
    obtain ⟨tyq5, xq5, cq5_0, ttq5, fq5_0, fq5_1, ecq5_0, tcq5_0, gq5, efq5_0, afq5_0, bfq5_0, efq5_1, afq5_1, bfq5_1, uq5_0, uq5_1, uq5_2, uq5_3, uq5_4, uq5_5⟩ := wq5
    dsimp only at uq5_2 uq5_3 uq5_4 uq5_5
    refine ⟨_, gq5, ?_⟩
    show gz gPP gGG gcn _ _ 16 [some (.ref x), some (.int (zi v)), some (.int (zi n))] [] hq5 _
    have G6 : gSg [114] [] [56000, 56001, 56002, 56003, 114999] ty h tyq5 hq5 := gSg.tr (gSg.ss G0 hS (by decide)) xq5 (by decide) (by decide) (fun x hx => by cases hx)
    have t7 : tyq5 x = 71 := gSg.typ xq5 hS.1 tx rfl
    have t8 : tyq5 sk = 56 := gSg.typ xq5 hS.1 tsk rfl
    have t9 : tyq5 bt = 114 := gSg.typ xq5 hS.1 tbt rfl
    have hl10 : hq5.2.2.2.1 bt = h.2.2.2.1 bt := gSg.len xq5 hS.1 tbt rfl
    have s11 := gSg.at xq5 hS.1 tx rfl (by decide) esk
    have s12 := gSg.at xq5 hS.1 tx rfl (by decide) ecg
    have uq13 := gSg.uq xq5 uq (by decide)
    have sS14 : gSs rT 1027 tyq5 [56000, 56001, 56002, 56003, 114999] hq5 hq5 := gSs.rf xq5.1
    have hl15 : 1024 ≤ hq5.2.2.2.1 bt ∧ hq5.2.2.2.1 bt ≤ 1000000 := gJ.rowl (G := gGG) sS14.1 t9 rfl
    have hl16 : 1024 ≤ hq5.2.2.2.1 cq5_0 ∧ hq5.2.2.2.1 cq5_0 ≤ 1000000 := gJ.rowl (G := gGG) sS14.1 tcq5_0 rfl
    have G17 : gSg [114] [] [56000, 56001, 56002, 56003, 114999] ty h tyq5 hq5 := gSg.ss G6 sS14 (by decide)
    exact gz_end (I := .return_) (len := 1) rfl (Or.inl rfl) ⟨tyq5, G17, cq5_0, trivial, fq5_0, fq5_1, ecq5_0, tcq5_0, rfl, efq5_0, (by omega), (by omega), efq5_1, (by omega), (by omega), (by omega), (by omega), (by omega), (by dsimp only; omega), (by dsimp only; omega), (by dsimp only; omega), (by dsimp only; omega)⟩
set_option maxRecDepth 20000 in
set_option maxHeartbeats 4000000 in
theorem cl_Integer_numberOfLeadingZeros (d : Nat) {ty : Nat → Nat} {h : gH} (hJ : gJ rT 1027 ty h) (a : Int) (ra : 0 ≤ a ∧ a ≤ 4096) : gz gPP gGG gcn (d + 0) gt114 0 (gent [.int (zi a)] 2) [] h (fun q _ => gSs rT 1027 ty [] h q.2.2 ∧ ∃ z : Int, gfin gt114 q.1 q.2.1 = some (some (.int (zi z))) ∧ 16 ≤ z ∧ z ≤ 32) := by
  have hS : gSs rT 1027 ty [] h h := gSs.rf hJ
  refine gz_s 1 (pc' := 1) (L' := [some (.int (zi a)), none]) (S' := [.int (zi a)]) rfl ?_
  by_cases hc1 : (0 : Int) < a
  · refine gy_ifT (pc' := 15) rfl (by decide) (by decide) (by omega) hc1 ?_
    refine gz_s 3 (pc' := 19) (L' := [some (.int (zi a)), some (.int (zi 31))]) (S' := [.int (zi a)]) rfl ?_
    refine gz_1 rfl (by decide) rfl rfl (pc' := 22) (S' := [.int (zi 65536), .int (zi a)]) (h' := h) rfl ?_
    refine gy_icT (pc' := 33) rfl (by decide) (by decide) (by omega) (by omega) (by first | (simp [zc]; done) | (simp only [zc]; omega)) ?_
    refine gz_s 2 (pc' := 37) (L' := [some (.int (zi a)), some (.int (zi 31))]) (S' := [.int (zi 256), .int (zi a)]) rfl ?_
    by_cases hc2 : (a : Int) < 256
    · refine gy_icT (pc' := 48) rfl (by decide) (by decide) (by omega) (by omega) hc2 ?_
      refine gz_s 2 (pc' := 51) (L' := [some (.int (zi a)), some (.int (zi 31))]) (S' := [.int (zi 16), .int (zi a)]) rfl ?_
      by_cases hc3 : (a : Int) < 16
      · refine gy_icT (pc' := 61) rfl (by decide) (by decide) (by omega) (by omega) hc3 ?_
        refine gz_s 2 (pc' := 63) (L' := [some (.int (zi a)), some (.int (zi 31))]) (S' := [.int (zi 4), .int (zi a)]) rfl ?_
        by_cases hc4 : (a : Int) < 4
        · refine gy_icT (pc' := 73) rfl (by decide) (by decide) (by omega) (by omega) hc4 ?_
          refine gz_s 3 (pc' := 76) (L' := [some (.int (zi a)), some (.int (zi 31))]) (S' := [.int (zi 1), .int (zi a), .int (zi 31)]) rfl ?_
          refine gy_ushc (n := 1) (v := 2) rfl (by decide) (by omega) rfl (by decide) (by decide) ?_
          refine gy_s 1 (pc' := 78) (L' := [some (.int (zi a)), some (.int (zi 31))]) (S' := [.int ((zi 31) - (zi (a / 2)))]) (L2 := [some (.int (zi a)), some (.int (zi 31))]) (S2 := [.int (zi (31 - (a / 2)))]) rfl (by simp only [zi_add, zi_sub, zi_mul, zi_neg, zi_and1, zi_and7, zi_and15, zi_and31, zi_and255]) (by simp only [zi_add, zi_sub, zi_mul, zi_neg, zi_and1, zi_and7, zi_and15, zi_and31, zi_and255]) ?_
          exact gz_end (I := .ireturn) (len := 1) rfl (Or.inl rfl) ⟨hS, 31 - (a / 2), rfl, (by omega), (by omega)⟩
        · refine gy_icF rfl (by decide) (by decide) (by omega) (by omega) hc4 ?_
          refine gy_s 3 (pc' := 71) (L' := [some (.int (zi a)), some (.int ((zi 31) + zi (-2)))]) (S' := [.int (zi 2), .int (zi a)]) (L2 := [some (.int (zi a)), some (.int (zi (31 + (-2))))]) (S2 := [.int (zi 2), .int (zi a)]) rfl (by simp only [zi_add, zi_sub, zi_mul, zi_neg, zi_and1, zi_and7, zi_and15, zi_and31, zi_and255]) (by simp only [zi_add, zi_sub, zi_mul, zi_neg, zi_and1, zi_and7, zi_and15, zi_and31, zi_and255]) ?_
          refine gy_ushc (n := 2) (v := 4) rfl (by decide) (by omega) rfl (by decide) (by decide) ?_
          refine gz_s 4 (pc' := 76) (L' := [some (.int (zi (a / 4))), some (.int (zi (31 + (-2))))]) (S' := [.int (zi 1), .int (zi (a / 4)), .int (zi (31 + (-2)))]) rfl ?_
          refine gy_ushc (n := 1) (v := 2) rfl (by decide) (by omega) rfl (by decide) (by decide) ?_
          refine gy_s 1 (pc' := 78) (L' := [some (.int (zi (a / 4))), some (.int (zi (31 + (-2))))]) (S' := [.int ((zi (31 + (-2))) - (zi ((a / 4) / 2)))]) (L2 := [some (.int (zi (a / 4))), some (.int (zi (31 + (-2))))]) (S2 := [.int (zi ((31 + (-2)) - ((a / 4) / 2)))]) rfl (by simp only [zi_add, zi_sub, zi_mul, zi_neg, zi_and1, zi_and7, zi_and15, zi_and31, zi_and255]) (by simp only [zi_add, zi_sub, zi_mul, zi_neg, zi_and1, zi_and7, zi_and15, zi_and31, zi_and255]) ?_
          exact gz_end (I := .ireturn) (len := 1) rfl (Or.inl rfl) ⟨hS, (31 + (-2)) - ((a / 4) / 2), rfl, (by omega), (by omega)⟩
      · refine gy_icF rfl (by decide) (by decide) (by omega) (by omega) hc3 ?_
        refine gy_s 3 (pc' := 59) (L' := [some (.int (zi a)), some (.int ((zi 31) + zi (-4)))]) (S' := [.int (zi 4), .int (zi a)]) (L2 := [some (.int (zi a)), some (.int (zi (31 + (-4))))]) (S2 := [.int (zi 4), .int (zi a)]) rfl (by simp only [zi_add, zi_sub, zi_mul, zi_neg, zi_and1, zi_and7, zi_and15, zi_and31, zi_and255]) (by simp only [zi_add, zi_sub, zi_mul, zi_neg, zi_and1, zi_and7, zi_and15, zi_and31, zi_and255]) ?_
        refine gy_ushc (n := 4) (v := 16) rfl (by decide) (by omega) rfl (by decide) (by decide) ?_
        refine gz_s 3 (pc' := 63) (L' := [some (.int (zi (a / 16))), some (.int (zi (31 + (-4))))]) (S' := [.int (zi 4), .int (zi (a / 16))]) rfl ?_
        by_cases hc5 : (a / 16 : Int) < 4
        · refine gy_icT (pc' := 73) rfl (by decide) (by decide) (by omega) (by omega) hc5 ?_
          refine gz_s 3 (pc' := 76) (L' := [some (.int (zi (a / 16))), some (.int (zi (31 + (-4))))]) (S' := [.int (zi 1), .int (zi (a / 16)), .int (zi (31 + (-4)))]) rfl ?_
          refine gy_ushc (n := 1) (v := 2) rfl (by decide) (by omega) rfl (by decide) (by decide) ?_
          refine gy_s 1 (pc' := 78) (L' := [some (.int (zi (a / 16))), some (.int (zi (31 + (-4))))]) (S' := [.int ((zi (31 + (-4))) - (zi ((a / 16) / 2)))]) (L2 := [some (.int (zi (a / 16))), some (.int (zi (31 + (-4))))]) (S2 := [.int (zi ((31 + (-4)) - ((a / 16) / 2)))]) rfl (by simp only [zi_add, zi_sub, zi_mul, zi_neg, zi_and1, zi_and7, zi_and15, zi_and31, zi_and255]) (by simp only [zi_add, zi_sub, zi_mul, zi_neg, zi_and1, zi_and7, zi_and15, zi_and31, zi_and255]) ?_
          exact gz_end (I := .ireturn) (len := 1) rfl (Or.inl rfl) ⟨hS, (31 + (-4)) - ((a / 16) / 2), rfl, (by omega), (by omega)⟩
        · refine gy_icF rfl (by decide) (by decide) (by omega) (by omega) hc5 ?_
          refine gy_s 3 (pc' := 71) (L' := [some (.int (zi (a / 16))), some (.int ((zi (31 + (-4))) + zi (-2)))]) (S' := [.int (zi 2), .int (zi (a / 16))]) (L2 := [some (.int (zi (a / 16))), some (.int (zi ((31 + (-4)) + (-2))))]) (S2 := [.int (zi 2), .int (zi (a / 16))]) rfl (by simp only [zi_add, zi_sub, zi_mul, zi_neg, zi_and1, zi_and7, zi_and15, zi_and31, zi_and255]) (by simp only [zi_add, zi_sub, zi_mul, zi_neg, zi_and1, zi_and7, zi_and15, zi_and31, zi_and255]) ?_
          refine gy_ushc (n := 2) (v := 4) rfl (by decide) (by omega) rfl (by decide) (by decide) ?_
          refine gz_s 4 (pc' := 76) (L' := [some (.int (zi ((a / 16) / 4))), some (.int (zi ((31 + (-4)) + (-2))))]) (S' := [.int (zi 1), .int (zi ((a / 16) / 4)), .int (zi ((31 + (-4)) + (-2)))]) rfl ?_
          refine gy_ushc (n := 1) (v := 2) rfl (by decide) (by omega) rfl (by decide) (by decide) ?_
          refine gy_s 1 (pc' := 78) (L' := [some (.int (zi ((a / 16) / 4))), some (.int (zi ((31 + (-4)) + (-2))))]) (S' := [.int ((zi ((31 + (-4)) + (-2))) - (zi (((a / 16) / 4) / 2)))]) (L2 := [some (.int (zi ((a / 16) / 4))), some (.int (zi ((31 + (-4)) + (-2))))]) (S2 := [.int (zi (((31 + (-4)) + (-2)) - (((a / 16) / 4) / 2)))]) rfl (by simp only [zi_add, zi_sub, zi_mul, zi_neg, zi_and1, zi_and7, zi_and15, zi_and31, zi_and255]) (by simp only [zi_add, zi_sub, zi_mul, zi_neg, zi_and1, zi_and7, zi_and15, zi_and31, zi_and255]) ?_
          exact gz_end (I := .ireturn) (len := 1) rfl (Or.inl rfl) ⟨hS, ((31 + (-4)) + (-2)) - (((a / 16) / 4) / 2), rfl, (by omega), (by omega)⟩
    · refine gy_icF rfl (by decide) (by decide) (by omega) (by omega) hc2 ?_
      refine gy_s 3 (pc' := 46) (L' := [some (.int (zi a)), some (.int ((zi 31) + zi (-8)))]) (S' := [.int (zi 8), .int (zi a)]) (L2 := [some (.int (zi a)), some (.int (zi (31 + (-8))))]) (S2 := [.int (zi 8), .int (zi a)]) rfl (by simp only [zi_add, zi_sub, zi_mul, zi_neg, zi_and1, zi_and7, zi_and15, zi_and31, zi_and255]) (by simp only [zi_add, zi_sub, zi_mul, zi_neg, zi_and1, zi_and7, zi_and15, zi_and31, zi_and255]) ?_
      refine gy_ushc (n := 8) (v := 256) rfl (by decide) (by omega) rfl (by decide) (by decide) ?_
      refine gz_s 3 (pc' := 51) (L' := [some (.int (zi (a / 256))), some (.int (zi (31 + (-8))))]) (S' := [.int (zi 16), .int (zi (a / 256))]) rfl ?_
      by_cases hc6 : (a / 256 : Int) < 16
      · refine gy_icT (pc' := 61) rfl (by decide) (by decide) (by omega) (by omega) hc6 ?_
        refine gz_s 2 (pc' := 63) (L' := [some (.int (zi (a / 256))), some (.int (zi (31 + (-8))))]) (S' := [.int (zi 4), .int (zi (a / 256))]) rfl ?_
        by_cases hc7 : (a / 256 : Int) < 4
        · refine gy_icT (pc' := 73) rfl (by decide) (by decide) (by omega) (by omega) hc7 ?_
          refine gz_s 3 (pc' := 76) (L' := [some (.int (zi (a / 256))), some (.int (zi (31 + (-8))))]) (S' := [.int (zi 1), .int (zi (a / 256)), .int (zi (31 + (-8)))]) rfl ?_
          refine gy_ushc (n := 1) (v := 2) rfl (by decide) (by omega) rfl (by decide) (by decide) ?_
          refine gy_s 1 (pc' := 78) (L' := [some (.int (zi (a / 256))), some (.int (zi (31 + (-8))))]) (S' := [.int ((zi (31 + (-8))) - (zi ((a / 256) / 2)))]) (L2 := [some (.int (zi (a / 256))), some (.int (zi (31 + (-8))))]) (S2 := [.int (zi ((31 + (-8)) - ((a / 256) / 2)))]) rfl (by simp only [zi_add, zi_sub, zi_mul, zi_neg, zi_and1, zi_and7, zi_and15, zi_and31, zi_and255]) (by simp only [zi_add, zi_sub, zi_mul, zi_neg, zi_and1, zi_and7, zi_and15, zi_and31, zi_and255]) ?_
          exact gz_end (I := .ireturn) (len := 1) rfl (Or.inl rfl) ⟨hS, (31 + (-8)) - ((a / 256) / 2), rfl, (by omega), (by omega)⟩
        · refine gy_icF rfl (by decide) (by decide) (by omega) (by omega) hc7 ?_
          refine gy_s 3 (pc' := 71) (L' := [some (.int (zi (a / 256))), some (.int ((zi (31 + (-8))) + zi (-2)))]) (S' := [.int (zi 2), .int (zi (a / 256))]) (L2 := [some (.int (zi (a / 256))), some (.int (zi ((31 + (-8)) + (-2))))]) (S2 := [.int (zi 2), .int (zi (a / 256))]) rfl (by simp only [zi_add, zi_sub, zi_mul, zi_neg, zi_and1, zi_and7, zi_and15, zi_and31, zi_and255]) (by simp only [zi_add, zi_sub, zi_mul, zi_neg, zi_and1, zi_and7, zi_and15, zi_and31, zi_and255]) ?_
          refine gy_ushc (n := 2) (v := 4) rfl (by decide) (by omega) rfl (by decide) (by decide) ?_
          refine gz_s 4 (pc' := 76) (L' := [some (.int (zi ((a / 256) / 4))), some (.int (zi ((31 + (-8)) + (-2))))]) (S' := [.int (zi 1), .int (zi ((a / 256) / 4)), .int (zi ((31 + (-8)) + (-2)))]) rfl ?_
          refine gy_ushc (n := 1) (v := 2) rfl (by decide) (by omega) rfl (by decide) (by decide) ?_
          refine gy_s 1 (pc' := 78) (L' := [some (.int (zi ((a / 256) / 4))), some (.int (zi ((31 + (-8)) + (-2))))]) (S' := [.int ((zi ((31 + (-8)) + (-2))) - (zi (((a / 256) / 4) / 2)))]) (L2 := [some (.int (zi ((a / 256) / 4))), some (.int (zi ((31 + (-8)) + (-2))))]) (S2 := [.int (zi (((31 + (-8)) + (-2)) - (((a / 256) / 4) / 2)))]) rfl (by simp only [zi_add, zi_sub, zi_mul, zi_neg, zi_and1, zi_and7, zi_and15, zi_and31, zi_and255]) (by simp only [zi_add, zi_sub, zi_mul, zi_neg, zi_and1, zi_and7, zi_and15, zi_and31, zi_and255]) ?_
          exact gz_end (I := .ireturn) (len := 1) rfl (Or.inl rfl) ⟨hS, ((31 + (-8)) + (-2)) - (((a / 256) / 4) / 2), rfl, (by omega), (by omega)⟩
      · refine gy_icF rfl (by decide) (by decide) (by omega) (by omega) hc6 ?_
        refine gy_s 3 (pc' := 59) (L' := [some (.int (zi (a / 256))), some (.int ((zi (31 + (-8))) + zi (-4)))]) (S' := [.int (zi 4), .int (zi (a / 256))]) (L2 := [some (.int (zi (a / 256))), some (.int (zi ((31 + (-8)) + (-4))))]) (S2 := [.int (zi 4), .int (zi (a / 256))]) rfl (by simp only [zi_add, zi_sub, zi_mul, zi_neg, zi_and1, zi_and7, zi_and15, zi_and31, zi_and255]) (by simp only [zi_add, zi_sub, zi_mul, zi_neg, zi_and1, zi_and7, zi_and15, zi_and31, zi_and255]) ?_
        refine gy_ushc (n := 4) (v := 16) rfl (by decide) (by omega) rfl (by decide) (by decide) ?_
        refine gz_s 3 (pc' := 63) (L' := [some (.int (zi ((a / 256) / 16))), some (.int (zi ((31 + (-8)) + (-4))))]) (S' := [.int (zi 4), .int (zi ((a / 256) / 16))]) rfl ?_
        refine gy_icT (pc' := 73) rfl (by decide) (by decide) (by omega) (by omega) (by first | (simp [zc]; done) | (simp only [zc]; omega)) ?_
        refine gz_s 3 (pc' := 76) (L' := [some (.int (zi ((a / 256) / 16))), some (.int (zi ((31 + (-8)) + (-4))))]) (S' := [.int (zi 1), .int (zi ((a / 256) / 16)), .int (zi ((31 + (-8)) + (-4)))]) rfl ?_
        refine gy_ushc (n := 1) (v := 2) rfl (by decide) (by omega) rfl (by decide) (by decide) ?_
        refine gy_s 1 (pc' := 78) (L' := [some (.int (zi ((a / 256) / 16))), some (.int (zi ((31 + (-8)) + (-4))))]) (S' := [.int ((zi ((31 + (-8)) + (-4))) - (zi (((a / 256) / 16) / 2)))]) (L2 := [some (.int (zi ((a / 256) / 16))), some (.int (zi ((31 + (-8)) + (-4))))]) (S2 := [.int (zi (((31 + (-8)) + (-4)) - (((a / 256) / 16) / 2)))]) rfl (by simp only [zi_add, zi_sub, zi_mul, zi_neg, zi_and1, zi_and7, zi_and15, zi_and31, zi_and255]) (by simp only [zi_add, zi_sub, zi_mul, zi_neg, zi_and1, zi_and7, zi_and15, zi_and31, zi_and255]) ?_
        exact gz_end (I := .ireturn) (len := 1) rfl (Or.inl rfl) ⟨hS, ((31 + (-8)) + (-4)) - (((a / 256) / 16) / 2), rfl, (by omega), (by omega)⟩
  · refine gy_ifF rfl (by decide) (by decide) (by omega) hc1 ?_
    refine gz_s 1 (pc' := 5) (L' := [some (.int (zi a)), none]) (S' := [.int (zi a)]) rfl ?_
    refine gy_ifF rfl (by decide) (by decide) (by omega) (by first | (simp [zc]; done) | (simp only [zc]; omega)) ?_
    refine gz_s 2 (pc' := 14) (L' := [some (.int (zi a)), none]) (S' := [.int (zi 32)]) rfl ?_
    exact gz_end (I := .ireturn) (len := 1) rfl (Or.inl rfl) ⟨hS, 32, rfl, (by omega), (by omega)⟩
set_option maxRecDepth 20000 in
set_option maxHeartbeats 4000000 in
theorem cl_Writer_bitsOf (d : Nat) {ty : Nat → Nat} {h : gH} (hJ : gJ rT 1027 ty h) (v : Int) (rv : (-4096) ≤ v ∧ v ≤ 4096) (uq : gUq ty) : gz gPP gGG gcn (d + 1) gt112 0 (gent [.int (zi v)] 1) [] h (fun q _ => gSs rT 1027 ty [] h q.2.2 ∧ ∃ z : Int, gfin gt112 q.1 q.2.1 = some (some (.int (zi z))) ∧ 0 ≤ z ∧ z ≤ 16) := by
  have hS : gSs rT 1027 ty [] h h := gSs.rf hJ
  refine gz_s 2 (pc' := 3) (L' := [some (.int (zi v))]) (S' := [.int (zi v), .int (zi 32)]) rfl ?_
  refine gz_call rfl (by decide) rfl (by decide) (by decide) (gcal_of rfl rfl rfl (Nat.le_of_ble_eq_true rfl) rfl) (cl_Math_abs _ hS.1 v (by omega) ) (fun q1 _ wq1 => ?_)
  obtain ⟨pq1, oq1, hq1⟩ := q1
  obtain ⟨xq1, zq1, gq1, aq1, bq1, uq1_0, uq1_1⟩ := wq1
  refine ⟨_, gq1, ?_⟩
  show gz gPP gGG gcn _ _ 6 [some (.int (zi v))] [.int (zi zq1), .int (zi 32)] hq1 _
  have sq1 : gSs rT 1027 ty [] h hq1 := gSs.tr hS xq1 (by decide)
  refine gz_call rfl (by decide) rfl (by decide) (by decide) (gcal_of rfl rfl rfl (Nat.le_of_ble_eq_true rfl) rfl) (cl_Integer_numberOfLeadingZeros _ sq1.1 zq1 (by omega) ) (fun q2 _ wq2 => ?_)
  obtain ⟨pq2, oq2, hq2⟩ := q2
  obtain ⟨xq2, zq2, gq2, aq2, bq2⟩ := wq2
  refine ⟨_, gq2, ?_⟩
  show gz gPP gGG gcn _ _ 9 [some (.int (zi v))] [.int (zi zq2), .int (zi 32)] hq2 _
  have sq2 : gSs rT 1027 ty [] h hq2 := gSs.tr sq1 xq2 (by decide)
  refine gy_s 1 (pc' := 10) (L' := [some (.int (zi v))]) (S' := [.int ((zi 32) - (zi zq2))]) (L2 := [some (.int (zi v))]) (S2 := [.int (zi (32 - zq2))]) rfl (by simp only [zi_add, zi_sub, zi_mul, zi_neg, zi_and1, zi_and7, zi_and15, zi_and31, zi_and255]) (by simp only [zi_add, zi_sub, zi_mul, zi_neg, zi_and1, zi_and7, zi_and15, zi_and31, zi_and255]) ?_
  exact gz_end (I := .ireturn) (len := 1) rfl (Or.inl rfl) ⟨sq2, 32 - zq2, rfl, (by omega), (by omega)⟩
set_option maxRecDepth 20000 in
set_option maxHeartbeats 4000000 in
theorem cl_Writer_putRestart (d : Nat) {ty : Nat → Nat} {h : gH} (hJ : gJ rT 1027 ty h) (x : Nat) (tx : ty x = 71) (n : Int) (rn : (-1) ≤ n ∧ n ≤ 16) (sk : Nat) (esk : h.2.2.2.2 x 0 = .ref sk) (tsk : ty sk = 56) (bt : Nat) (ebt : h.2.2.2.2 sk 0 = .ref bt) (tbt : ty bt = 114) (c0 : Int) (ec0 : h.2.2.2.2 sk 1 = .int (zi c0)) (rc0 : 0 ≤ c0 ∧ c0 ≤ 499999) (h0 : Int) (eh0 : h.2.2.2.2 sk 3 = .int (zi h0)) (rh0 : 0 ≤ h0 ∧ h0 ≤ 7) (cg : Int) (ecg : h.2.2.2.2 x 11 = .int (zi cg)) (rcg : 0 ≤ cg ∧ cg ≤ 1) (pp0 : 4 * c0 + h0 + 16 ≤ 1999990) (pp1 : c0 ≤ (h.2.2.2.1 bt : Int)) (uq : gUq ty) : gz gPP gGG gcn (d + 5) gt107 0 (gent [.ref x, .int (zi n)] 2) [] h (fun q _ => ∃ ty9 : Nat → Nat, gSg [114] [] [56000, 56001, 56002, 56003, 114999] ty h ty9 q.2.2 ∧ ∃ bt2 : Nat, True ∧ ∃ c1 h1 : Int, q.2.2.2.2.2.2 sk 0 = .ref bt2 ∧ ty9 bt2 = 114 ∧ gfin gt107 q.1 q.2.1 = some none ∧ q.2.2.2.2.2.2 sk 1 = .int (zi c1) ∧ 0 ≤ c1 ∧ c1 ≤ 500000 ∧ q.2.2.2.2.2.2 sk 3 = .int (zi h1) ∧ 0 ≤ h1 ∧ h1 ≤ 7 ∧ (4 * c1 + h1 ≤ 4 * c0 + h0 + 16) ∧ (c0 ≤ c1) ∧ (cg = 1 → (c1 = c0 ∧ h1 = h0)) ∧ (1024 * ((q.2.2.1 : Int) - h.1) ≤ (q.2.2.2.2.2.1 bt2 : Int) - h.2.2.2.1 bt) ∧ (((q.2.2.2.1 : Int) - h.2.1) ≤ 2 * ((q.2.2.2.2.2.1 bt2 : Int) - h.2.2.2.1 bt)) ∧ ((h.2.2.2.1 bt : Int) ≤ (q.2.2.2.2.2.1 bt2 : Int)) ∧ (c1 ≤ (q.2.2.2.2.2.1 bt2 : Int))) := by
  have hS : gSs rT 1027 ty [56000, 56001, 56002, 56003, 114999] h h := gSs.rf hJ
  have G0 : gSg [114] [] [56000, 56001, 56002, 56003, 114999] ty h ty h := gSg.rf hJ (fun x hx => by cases hx)
  refine gz_s 1 (pc' := 1) (L' := [some (.ref x), some (.int (zi n))]) (S' := [.ref x]) rfl ?_
  refine gs_gtk rfl (by decide) rfl hS.1 tx rfl rfl ecg ?_
  by_cases hc1 : ¬ (cg : Int) = 0
  · refine gy_ifT (pc' := 29) rfl (by decide) (by decide) (by omega) hc1 ?_
    have hl2 : 1024 ≤ h.2.2.2.1 bt ∧ h.2.2.2.1 bt ≤ 1000000 := gJ.rowl (G := gGG) hS.1 tbt rfl
    have G3 : gSg [114] [] [56000, 56001, 56002, 56003, 114999] ty h ty h := gSg.ss G0 hS (by decide)
    exact gz_end (I := .return_) (len := 1) rfl (Or.inl rfl) ⟨ty, G3, bt, trivial, c0, h0, ebt, tbt, rfl, ec0, (by omega), (by omega), eh0, (by omega), (by omega), (by omega), (by omega), (by omega), (by dsimp only; omega), (by dsimp only; omega), (by dsimp only; omega), (by dsimp only; omega)⟩
  · refine gy_ifF rfl (by decide) (by decide) (by omega) hc1 ?_
    refine gz_s 1 (pc' := 8) (L' := [some (.ref x), some (.int (zi n))]) (S' := [.ref x]) rfl ?_
    refine gs_gtk rfl (by decide) rfl hS.1 tx rfl rfl esk ?_
    have hl4 : h.2.2.2.1 bt = h.2.2.2.1 bt := congrFun hS.2.2.2.2.1 bt
    refine gz_call rfl (by decide) rfl (by decide) (by decide) (gcal_of rfl rfl rfl (Nat.le_of_ble_eq_true rfl) (gJ.recv (G := gGG) hS.1 tsk rfl rfl)) (cl_Sink_fillByte _ hS.1 sk tsk bt ebt tbt c0 ec0 (by omega) h0 eh0 (by omega) (by omega) (by omega) uq) (fun q5 _ wq5 => ?_)
    obtain ⟨pq5, oq5, hq5⟩ := q5
    obtain ⟨tyq5, xq5, cq5_0, ttq5, fq5_0, fq5_1, ecq5_0, tcq5_0, gq5, efq5_0, afq5_0, bfq5_0, efq5_1, afq5_1, bfq5_1, uq5_0, uq5_1, uq5_2, uq5_3, uq5_4, uq5_5⟩ := wq5
    dsimp only at uq5_2 uq5_3 uq5_4 uq5_5
    refine ⟨_, gq5, ?_⟩
    show gz gPP gGG gcn _ _ 14 [some (.ref x), some (.int (zi n))] [] hq5 _
    have G6 : gSg [114] [] [56000, 56001, 56002, 56003, 114999] ty h tyq5 hq5 := gSg.tr (gSg.ss G0 hS (by decide)) xq5 (by decide) (by decide) (fun x hx => by cases hx)
    have t7 : tyq5 x = 71 := gSg.typ xq5 hS.1 tx rfl
    have t8 : tyq5 sk = 56 := gSg.typ xq5 hS.1 tsk rfl
    have t9 : tyq5 bt = 114 := gSg.typ xq5 hS.1 tbt rfl
    have hl10 : hq5.2.2.2.1 bt = h.2.2.2.1 bt := gSg.len xq5 hS.1 tbt rfl
    have s11 := gSg.at xq5 hS.1 tx rfl (by decide) esk
    have s12 := gSg.at xq5 hS.1 tx rfl (by decide) ecg
    have uq13 := gSg.uq xq5 uq (by decide)
    have sS14 : gSs rT 1027 tyq5 [56000, 56001, 56002, 56003, 114999] hq5 hq5 := gSs.rf xq5.1
    refine gz_s 1 (pc' := 15) (L' := [some (.ref x), some (.int (zi n))]) (S' := [.ref x]) rfl ?_
    refine gs_gtk rfl (by decide) rfl sS14.1 t7 rfl rfl s11 ?_
    refine gz_s 3 (pc' := 24) (L' := [some (.ref x), some (.int (zi n))]) (S' := [.int (zi 8), .int (zi n), .int (zi 208), .ref sk]) rfl ?_
    refine gy_rmv rfl (by decide) (by omega) (by omega) (fun z15 az15 bz15 cz15 => ?_)
    refine gy_s 1 (pc' := 26) (L' := [some (.ref x), some (.int (zi n))]) (S' := [.int ((zi 208) + (zi z15)), .ref sk]) (L2 := [some (.ref x), some (.int (zi n))]) (S2 := [.int (zi (208 + z15)), .ref sk]) rfl (by simp only [zi_add, zi_sub, zi_mul, zi_neg, zi_and1, zi_and7, zi_and15, zi_and31, zi_and255]) (by simp only [zi_add, zi_sub, zi_mul, zi_neg, zi_and1, zi_and7, zi_and15, zi_and31, zi_and255]) ?_
    have hl16 : hq5.2.2.2.1 cq5_0 = hq5.2.2.2.1 cq5_0 := congrFun sS14.2.2.2.2.1 cq5_0
    refine gz_call rfl (by decide) rfl (by decide) (by decide) (gcal_of rfl rfl rfl (Nat.le_of_ble_eq_true rfl) (gJ.recv (G := gGG) sS14.1 t8 rfl rfl)) (cl_Sink_putMarker _ sS14.1 sk t8 (208 + z15) (by omega) cq5_0 ecq5_0 tcq5_0 fq5_0 efq5_0 (by omega) (by omega) uq13) (fun q17 _ wq17 => ?_)
    obtain ⟨pq17, oq17, hq17⟩ := q17
    obtain ⟨tyq17, xq17, cq17_0, ttq17, fq17_0, ecq17_0, tcq17_0, gq17, efq17_0, afq17_0, bfq17_0, uq17_0, uq17_1, uq17_2, uq17_3, uq17_4⟩ := wq17
    dsimp only at uq17_1 uq17_2 uq17_3 uq17_4
    refine ⟨_, gq17, ?_⟩
    show gz gPP gGG gcn _ _ 29 [some (.ref x), some (.int (zi n))] [] hq17 _
    have G18 : gSg [114] [] [56000, 56001, 56002, 56003, 114999] ty h tyq17 hq17 := gSg.tr (gSg.ss G6 sS14 (by decide)) xq17 (by decide) (by decide) (fun x hx => by cases hx)
    have t19 : tyq17 x = 71 := gSg.typ xq17 sS14.1 t7 rfl
    have t20 : tyq17 sk = 56 := gSg.typ xq17 sS14.1 t8 rfl
    have t21 : tyq17 bt = 114 := gSg.typ xq17 sS14.1 t9 rfl
    have hl22 : hq17.2.2.2.1 bt = hq5.2.2.2.1 bt := gSg.len xq17 sS14.1 t9 rfl
    have t23 : tyq17 cq5_0 = 114 := gSg.typ xq17 sS14.1 tcq5_0 rfl
    have hl24 : hq17.2.2.2.1 cq5_0 = hq5.2.2.2.1 cq5_0 := gSg.len xq17 sS14.1 tcq5_0 rfl
    have s25 := gSg.at xq17 sS14.1 t7 rfl (by decide) s11
    have s26 := gSg.at xq17 sS14.1 t7 rfl (by decide) s12
    have s27 := gSg.at xq17 sS14.1 t8 rfl (by decide) efq5_1
    have uq28 := gSg.uq xq17 uq13 (by decide)
    have sS29 : gSs rT 1027 tyq17 [56000, 56001, 56002, 56003, 114999] hq17 hq17 := gSs.rf xq17.1
    have hl30 : 1024 ≤ hq17.2.2.2.1 bt ∧ hq17.2.2.2.1 bt ≤ 1000000 := gJ.rowl (G := gGG) sS29.1 t21 rfl
    have hl31 : 1024 ≤ hq17.2.2.2.1 cq5_0 ∧ hq17.2.2.2.1 cq5_0 ≤ 1000000 := gJ.rowl (G := gGG) sS29.1 t23 rfl
    have hl32 : 1024 ≤ hq17.2.2.2.1 cq17_0 ∧ hq17.2.2.2.1 cq17_0 ≤ 1000000 := gJ.rowl (G := gGG) sS29.1 tcq17_0 rfl
    have G33 : gSg [114] [] [56000, 56001, 56002, 56003, 114999] ty h tyq17 hq17 := gSg.ss G18 sS29 (by decide)
    exact gz_end (I := .return_) (len := 1) rfl (Or.inl rfl) ⟨tyq17, G33, cq17_0, trivial, fq17_0, fq5_1, ecq17_0, tcq17_0, rfl, efq17_0, (by omega), (by omega), s27, (by omega), (by omega), (by omega), (by omega), (by omega), (by dsimp only; omega), (by dsimp only; omega), (by dsimp only; omega), (by dsimp only; omega)⟩
set_option maxRecDepth 20000 in
set_option maxHeartbeats 4000000 in
theorem cl_Writer_putFirst (d : Nat) {ty : Nat → Nat} {h : gH} (hJ : gJ rT 1027 ty h) (x : Nat) (tx : ty x = 71) (p : Int) (rp : 0 ≤ p ∧ p ≤ 960) (sk : Nat) (esk : h.2.2.2.2 x 0 = .ref sk) (tsk : ty sk = 56) (bt : Nat) (ebt : h.2.2.2.2 sk 0 = .ref bt) (tbt : ty bt = 114) (c0 : Int) (ec0 : h.2.2.2.2 sk 1 = .int (zi c0)) (rc0 : 0 ≤ c0 ∧ c0 ≤ 499999) (h0 : Int) (eh0 : h.2.2.2.2 sk 3 = .int (zi h0)) (rh0 : 0 ≤ h0 ∧ h0 ≤ 7) (cg : Int) (ecg : h.2.2.2.2 x 11 = .int (zi cg)) (rcg : 0 ≤ cg ∧ cg ≤ 1) (pp0 : 4 * c0 + h0 + 320 ≤ 1999990) (pp1 : c0 ≤ (h.2.2.2.1 bt : Int)) (uq : gUq ty) : gz gPP gGG gcn (d + 5) gt110 0 (gent [.ref x, .int (zi p)] 5) [] h (fun q _ => ∃ ty9 : Nat → Nat, gSg [114] [] [56000, 56001, 56002, 56003, 71012, 97999, 114999] ty h ty9 q.2.2 ∧ ∃ bt2 : Nat, True ∧ ∃ c1 h1 : Int, q.2.2.2.2.2.2 sk 0 = .ref bt2 ∧ ty9 bt2 = 114 ∧ gfin gt110 q.1 q.2.1 = some none ∧ q.2.2.2.2.2.2 sk 1 = .int (zi c1) ∧ 0 ≤ c1 ∧ c1 ≤ 500000 ∧ q.2.2.2.2.2.2 sk 3 = .int (zi h1) ∧ 0 ≤ h1 ∧ h1 ≤ 7 ∧ (4 * c1 + h1 ≤ 4 * c0 + h0 + 320) ∧ (c0 ≤ c1) ∧ (cg = 1 → (c1 = c0 ∧ h1 = h0)) ∧ (1024 * ((q.2.2.1 : Int) - h.1) ≤ (q.2.2.2.2.2.1 bt2 : Int) - h.2.2.2.1 bt) ∧ (((q.2.2.2.1 : Int) - h.2.1) ≤ 2 * ((q.2.2.2.2.2.1 bt2 : Int) - h.2.2.2.1 bt)) ∧ ((h.2.2.2.1 bt : Int) ≤ (q.2.2.2.2.2.1 bt2 : Int)) ∧ (c1 ≤ (q.2.2.2.2.2.1 bt2 : Int))) := by
  have hS : gSs rT 1027 ty [56000, 56001, 56002, 56003, 71012, 97999, 114999] h h := gSs.rf hJ
  have G0 : gSg [114] [] [56000, 56001, 56002, 56003, 71012, 97999, 114999] ty h ty h := gSg.rf hJ (fun x hx => by cases hx)
  refine gz_s 1 (pc' := 1) (L' := [some (.ref x), some (.int (zi p)), none, none, none]) (S' := [.ref x]) rfl ?_
  refine gs_gtr rfl (by decide) rfl hS.1 tx rfl rfl rfl (fun c1 ec1 tc1 => ?_)
  refine gz_s 1 (pc' := 5) (L' := [some (.ref x), some (.int (zi p)), none, none, none]) (S' := [.int (zi p), .ref c1]) rfl ?_
  have hl2 : 1024 ≤ h.2.2.2.1 c1 ∧ h.2.2.2.1 c1 ≤ 1024 := gJ.rowl (G := gGG) hS.1 tc1 rfl
  refine gs_ald rfl (by decide) hS.1 tc1 rfl rfl rfl (by decide) (fun _ => rfl) (by omega) (by omega) (fun z3 ez3 az3 bz3 => ?_)
  refine gz_s 1 (pc' := 7) (L' := [some (.ref x), some (.int (zi p)), none, none, none]) (S' := [.ref x, .int (zi z3)]) rfl ?_
  refine gs_get rfl (by decide) rfl hS.1 tx rfl rfl rfl (fun z4 ez4 az4 bz4 => ?_)
  refine gy_shv rfl (by decide) (by omega) (by omega) (fun z5 az5 bz5 => ?_)
  refine gz_s 2 (pc' := 13) (L' := [some (.ref x), some (.int (zi p)), some (.int (zi z5)), none, none]) (S' := [.ref x]) rfl ?_
  refine gs_get rfl (by decide) rfl hS.1 tx rfl rfl rfl (fun z6 ez6 az6 bz6 => ?_)
  by_cases hc7 : (z6 : Int) ≤ 0
  · refine gy_ifT (pc' := 28) rfl (by decide) (by decide) (by omega) hc7 ?_
    refine gz_s 2 (pc' := 30) (L' := [some (.ref x), some (.int (zi p)), some (.int (zi z5)), none, none]) (S' := [.ref x, .int (zi z5)]) rfl ?_
    refine gs_get rfl (by decide) rfl hS.1 tx rfl rfl rfl (fun z8 ez8 az8 bz8 => ?_)
    refine gy_s 4 (pc' := 37) (L' := [some (.ref x), some (.int (zi p)), some (.int (zi z5)), some (.int ((zi z5) - (zi z8))), none]) (S' := [.int (zi z5), .ref x]) (L2 := [some (.ref x), some (.int (zi p)), some (.int (zi z5)), some (.int (zi (z5 - z8))), none]) (S2 := [.int (zi z5), .ref x]) rfl (by simp only [zi_add, zi_sub, zi_mul, zi_neg, zi_and1, zi_and7, zi_and15, zi_and31, zi_and255]) (by simp only [zi_add, zi_sub, zi_mul, zi_neg, zi_and1, zi_and7, zi_and15, zi_and31, zi_and255]) ?_
    refine gs_put rfl (by decide) rfl hS tx rfl rfl rfl rfl (Or.inl rfl) (by decide) (by omega) (by omega) (fun h9 sh9 eh9 fh9 => ?_)
    have s10 := (fh9 x 0 (fun q => absurd q.2 (by decide))).trans esk
    have s11 := (fh9 sk 0 (fun q => absurd q.2 (by decide))).trans ebt
    have s12 := (fh9 sk 1 (fun q => absurd q.2 (by decide))).trans ec0
    have s13 := (fh9 sk 3 (fun q => absurd q.2 (by decide))).trans eh0
    have s14 := (fh9 x 11 (fun q => absurd q.2 (by decide))).trans ecg
    have s15 := (fh9 x 2 (fun q => absurd q.2 (by decide))).trans ec1
    have s16 := (fh9 x 10 (fun q => absurd q.2 (by decide))).trans ez4
    have s17 := (fh9 x 9 (fun q => absurd q.2 (by decide))).trans ez6
    refine gz_s 1 (pc' := 41) (L' := [some (.ref x), some (.int (zi p)), some (.int (zi z5)), some (.int (zi (z5 - z8))), none]) (S' := [.int (zi (z5 - z8))]) rfl ?_
    refine gz_call rfl (by decide) rfl (by decide) (by decide) (gcal_of rfl rfl rfl (Nat.le_of_ble_eq_true rfl) rfl) (cl_Writer_bitsOf _ sh9.1 (z5 - z8) (by omega) uq) (fun q18 _ wq18 => ?_)
    obtain ⟨pq18, oq18, hq18⟩ := q18
    obtain ⟨xq18, zq18, gq18, aq18, bq18⟩ := wq18
    refine ⟨_, gq18, ?_⟩
    show gz gPP gGG gcn _ _ 44 [some (.ref x), some (.int (zi p)), some (.int (zi z5)), some (.int (zi (z5 - z8))), none] [.int (zi zq18)] hq18 _
    have sq18 : gSs rT 1027 ty [56000, 56001, 56002, 56003, 71012, 97999, 114999] h hq18 := gSs.tr sh9 xq18 (by decide)
    have s19 := (xq18.2.2.2.2.2 x 0 (by rw [tx]; decide)).trans s10
    have s20 := (xq18.2.2.2.2.2 sk 0 (by rw [tsk]; decide)).trans s11
    have s21 := (xq18.2.2.2.2.2 sk 1 (by rw [tsk]; decide)).trans s12
    have s22 := (xq18.2.2.2.2.2 sk 3 (by rw [tsk]; decide)).trans s13
    have s23 := (xq18.2.2.2.2.2 x 11 (by rw [tx]; decide)).trans s14
    have s24 := (xq18.2.2.2.2.2 x 2 (by rw [tx]; decide)).trans s15
    have s25 := (xq18.2.2.2.2.2 x 10 (by rw [tx]; decide)).trans s16
    have s26 := (xq18.2.2.2.2.2 x 9 (by rw [tx]; decide)).trans s17
    have s27 := (xq18.2.2.2.2.2 x 12 (by rw [tx]; decide)).trans eh9
    refine gz_s 4 (pc' := 50) (L' := [some (.ref x), some (.int (zi p)), some (.int (zi z5)), some (.int (zi (z5 - z8))), some (.int (zi zq18))]) (S' := [.int (zi zq18), .int (zi 0), .ref x]) rfl ?_
    have k28 := sq18.2.1
    have k28b := sq18.2.2.1
    have hl29 : hq18.2.2.2.1 bt = h.2.2.2.1 bt := congrFun sq18.2.2.2.2.1 bt
    have hl30 : hq18.2.2.2.1 bt = h.2.2.2.1 bt := congrFun sq18.2.2.2.2.1 bt
    refine gz_call rfl (by decide) rfl (by decide) (by decide) (gcal_of rfl rfl rfl (Nat.le_of_ble_eq_true rfl) (gJ.recv (G := gGG) sq18.1 tx rfl rfl)) (cl_putSymbol0 _ sq18.1 x tx 0 (by omega) zq18 (by omega) sk s19 tsk bt s20 tbt c0 s21 (by omega) h0 s22 (by omega) cg s23 (by omega) (by omega) (by omega) uq) (fun q31 _ wq31 => ?_)
    obtain ⟨pq31, oq31, hq31⟩ := q31
    obtain ⟨tyq31, xq31, cq31_0, ttq31, fq31_0, fq31_1, ecq31_0, tcq31_0, gq31, efq31_0, afq31_0, bfq31_0, efq31_1, afq31_1, bfq31_1, uq31_0, uq31_1, uq31_2, uq31_3, uq31_4, uq31_5, uq31_6⟩ := wq31
    dsimp only at uq31_3 uq31_4 uq31_5 uq31_6
    refine ⟨_, gq31, ?_⟩
    show gz gPP gGG gcn _ _ 53 [some (.ref x), some (.int (zi p)), some (.int (zi z5)), some (.int (zi (z5 - z8))), some (.int (zi zq18))] [] hq31 _
    have G32 : gSg [114] [] [56000, 56001, 56002, 56003, 71012, 97999, 114999] ty h tyq31 hq31 := gSg.tr (gSg.ss G0 sq18 (by decide)) xq31 (by decide) (by decide) (fun x hx => by cases hx)
    have t33 : tyq31 x = 71 := gSg.typ xq31 sq18.1 tx rfl
    have t34 : tyq31 sk = 56 := gSg.typ xq31 sq18.1 tsk rfl
    have t35 : tyq31 bt = 114 := gSg.typ xq31 sq18.1 tbt rfl
    have hl36 : hq31.2.2.2.1 bt = hq18.2.2.2.1 bt := gSg.len xq31 sq18.1 tbt rfl
    have t37 : tyq31 c1 = 73 := gSg.typ xq31 sq18.1 tc1 rfl
    have s38 := gSg.at xq31 sq18.1 tx rfl (by decide) s19
    have s39 := gSg.at xq31 sq18.1 tx rfl (by decide) s23
    have s40 := gSg.at xq31 sq18.1 tx rfl (by decide) s24
    have s41 := gSg.at xq31 sq18.1 tx rfl (by decide) s25
    have s42 := gSg.at xq31 sq18.1 tx rfl (by decide) s26
    have s43 := gSg.at xq31 sq18.1 tx rfl (by decide) s27
    have uq44 := gSg.uq xq31 uq (by decide)
    have sS45 : gSs rT 1027 tyq31 [56000, 56001, 56002, 56003, 71012, 97999, 114999] hq31 hq31 := gSs.rf xq31.1
    refine gz_s 2 (pc' := 55) (L' := [some (.ref x), some (.int (zi p)), some (.int (zi z5)), some (.int (zi (z5 - z8))), some (.int (zi zq18))]) (S' := [.int (zi (z5 - z8)), .ref x]) rfl ?_
    by_cases hc46 : (0 : Int) ≤ z5 - z8
    · refine gy_ifT (pc' := 64) rfl (by decide) (by decide) (by omega) hc46 ?_
      refine gz_s 2 (pc' := 67) (L' := [some (.ref x), some (.int (zi p)), some (.int (zi z5)), some (.int (zi (z5 - z8))), some (.int (zi zq18))]) (S' := [.int (zi zq18), .int (zi (z5 - z8)), .ref x]) rfl ?_
      have hl47 : hq31.2.2.2.1 cq31_0 = hq31.2.2.2.1 cq31_0 := congrFun sS45.2.2.2.2.1 cq31_0
      refine gz_call rfl (by decide) rfl (by decide) (by decide) (gcal_of rfl rfl rfl (Nat.le_of_ble_eq_true rfl) (gJ.recv (G := gGG) sS45.1 t33 rfl rfl)) (cl_Writer_putPlain _ sS45.1 x t33 (z5 - z8) (by omega) zq18 (by omega) sk s38 t34 cq31_0 ecq31_0 tcq31_0 fq31_0 efq31_0 (by omega) fq31_1 efq31_1 (by omega) cg s39 (by omega) (by omega) (by omega) uq44) (fun q48 _ wq48 => ?_)
      obtain ⟨pq48, oq48, hq48⟩ := q48
      obtain ⟨tyq48, xq48, cq48_0, ttq48, fq48_0, fq48_1, ecq48_0, tcq48_0, gq48, efq48_0, afq48_0, bfq48_0, efq48_1, afq48_1, bfq48_1, uq48_0, uq48_1, uq48_2, uq48_3, uq48_4, uq48_5, uq48_6⟩ := wq48
      dsimp only at uq48_3 uq48_4 uq48_5 uq48_6
      refine ⟨_, gq48, ?_⟩
      show gz gPP gGG gcn _ _ 70 [some (.ref x), some (.int (zi p)), some (.int (zi z5)), some (.int (zi (z5 - z8))), some (.int (zi zq18))] [] hq48 _
      have G49 : gSg [114] [] [56000, 56001, 56002, 56003, 71012, 97999, 114999] ty h tyq48 hq48 := gSg.tr (gSg.ss G32 sS45 (by decide)) xq48 (by decide) (by decide) (fun x hx => by cases hx)
      have t50 : tyq48 x = 71 := gSg.typ xq48 sS45.1 t33 rfl
      have t51 : tyq48 sk = 56 := gSg.typ xq48 sS45.1 t34 rfl
      have t52 : tyq48 bt = 114 := gSg.typ xq48 sS45.1 t35 rfl
      have hl53 : hq48.2.2.2.1 bt = hq31.2.2.2.1 bt := gSg.len xq48 sS45.1 t35 rfl
      have t54 : tyq48 c1 = 73 := gSg.typ xq48 sS45.1 t37 rfl
      have t55 : tyq48 cq31_0 = 114 := gSg.typ xq48 sS45.1 tcq31_0 rfl
      have hl56 : hq48.2.2.2.1 cq31_0 = hq31.2.2.2.1 cq31_0 := gSg.len xq48 sS45.1 tcq31_0 rfl
      have s57 := gSg.at xq48 sS45.1 t33 rfl (by decide) s38
      have s58 := gSg.at xq48 sS45.1 t33 rfl (by decide) s39
      have s59 := gSg.at xq48 sS45.1 t33 rfl (by decide) s40
      have s60 := gSg.at xq48 sS45.1 t33 rfl (by decide) s41
      have s61 := gSg.at xq48 sS45.1 t33 rfl (by decide) s42
      have s62 := gSg.at xq48 sS45.1 t33 rfl (by decide) s43
      have uq63 := gSg.uq xq48 uq44 (by decide)
      have sS64 : gSs rT 1027 tyq48 [56000, 56001, 56002, 56003, 71012, 97999, 114999] hq48 hq48 := gSs.rf xq48.1
      have hl65 : 1024 ≤ hq48.2.2.2.1 bt ∧ hq48.2.2.2.1 bt ≤ 1000000 := gJ.rowl (G := gGG) sS64.1 t52 rfl
      have hl66 : 1024 ≤ hq48.2.2.2.1 cq31_0 ∧ hq48.2.2.2.1 cq31_0 ≤ 1000000 := gJ.rowl (G := gGG) sS64.1 t55 rfl
      have hl67 : 1024 ≤ hq48.2.2.2.1 cq48_0 ∧ hq48.2.2.2.1 cq48_0 ≤ 1000000 := gJ.rowl (G := gGG) sS64.1 tcq48_0 rfl
      have G68 : gSg [114] [] [56000, 56001, 56002, 56003, 71012, 97999, 114999] ty h tyq48 hq48 := gSg.ss G49 sS64 (by decide)
      exact gz_end (I := .return_) (len := 1) rfl (Or.inl rfl) ⟨tyq48, G68, cq48_0, trivial, fq48_0, fq48_1, ecq48_0, tcq48_0, rfl, efq48_0, (by omega), (by omega), efq48_1, (by omega), (by omega), (by omega), (by omega), (by omega), (by dsimp only; omega), (by dsimp only; omega), (by dsimp only; omega), (by dsimp only; omega)⟩
    · refine gy_ifF rfl (by decide) (by decide) (by omega) hc46 ?_
      refine gy_s 5 (pc' := 67) (L' := [some (.ref x), some (.int (zi p)), some (.int (zi z5)), some (.int (zi (z5 - z8))), some (.int (zi zq18))]) (S' := [.int (zi zq18), .int ((zi (z5 - z8)) - (zi 1)), .ref x]) (L2 := [some (.ref x), some (.int (zi p)), some (.int (zi z5)), some (.int (zi (z5 - z8))), some (.int (zi zq18))]) (S2 := [.int (zi zq18), .int (zi ((z5 - z8) - 1)), .ref x]) rfl (by simp only [zi_add, zi_sub, zi_mul, zi_neg, zi_and1, zi_and7, zi_and15, zi_and31, zi_and255]) (by simp only [zi_add, zi_sub, zi_mul, zi_neg, zi_and1, zi_and7, zi_and15, zi_and31, zi_and255]) ?_
      have hl69 : hq31.2.2.2.1 cq31_0 = hq31.2.2.2.1 cq31_0 := congrFun sS45.2.2.2.2.1 cq31_0
      refine gz_call rfl (by decide) rfl (by decide) (by decide) (gcal_of rfl rfl rfl (Nat.le_of_ble_eq_true rfl) (gJ.recv (G := gGG) sS45.1 t33 rfl rfl)) (cl_Writer_putPlain _ sS45.1 x t33 ((z5 - z8) - 1) (by omega) zq18 (by omega) sk s38 t34 cq31_0 ecq31_0 tcq31_0 fq31_0 efq31_0 (by omega) fq31_1 efq31_1 (by omega) cg s39 (by omega) (by omega) (by omega) uq44) (fun q70 _ wq70 => ?_)
      obtain ⟨pq70, oq70, hq70⟩ := q70
      obtain ⟨tyq70, xq70, cq70_0, ttq70, fq70_0, fq70_1, ecq70_0, tcq70_0, gq70, efq70_0, afq70_0, bfq70_0, efq70_1, afq70_1, bfq70_1, uq70_0, uq70_1, uq70_2, uq70_3, uq70_4, uq70_5, uq70_6⟩ := wq70
      dsimp only at uq70_3 uq70_4 uq70_5 uq70_6
      refine ⟨_, gq70, ?_⟩
      show gz gPP gGG gcn _ _ 70 [some (.ref x), some (.int (zi p)), some (.int (zi z5)), some (.int (zi (z5 - z8))), some (.int (zi zq18))] [] hq70 _
      have G71 : gSg [114] [] [56000, 56001, 56002, 56003, 71012, 97999, 114999] ty h tyq70 hq70 := gSg.tr (gSg.ss G32 sS45 (by decide)) xq70 (by decide) (by decide) (fun x hx => by cases hx)
      have t72 : tyq70 x = 71 := gSg.typ xq70 sS45.1 t33 rfl
      have t73 : tyq70 sk = 56 := gSg.typ xq70 sS45.1 t34 rfl
      have t74 : tyq70 bt = 114 := gSg.typ xq70 sS45.1 t35 rfl
      have hl75 : hq70.2.2.2.1 bt = hq31.2.2.2.1 bt := gSg.len xq70 sS45.1 t35 rfl
      have t76 : tyq70 c1 = 73 := gSg.typ xq70 sS45.1 t37 rfl
      have t77 : tyq70 cq31_0 = 114 := gSg.typ xq70 sS45.1 tcq31_0 rfl
      have hl78 : hq70.2.2.2.1 cq31_0 = hq31.2.2.2.1 cq31_0 := gSg.len xq70 sS45.1 tcq31_0 rfl
      have s79 := gSg.at xq70 sS45.1 t33 rfl (by decide) s38
      have s80 := gSg.at xq70 sS45.1 t33 rfl (by decide) s39
      have s81 := gSg.at xq70 sS45.1 t33 rfl (by decide) s40
      have s82 := gSg.at xq70 sS45.1 t33 rfl (by decide) s41
      have s83 := gSg.at xq70 sS45.1 t33 rfl (by decide) s42
      have s84 := gSg.at xq70 sS45.1 t33 rfl (by decide) s43
      have uq85 := gSg.uq xq70 uq44 (by decide)
      have sS86 : gSs rT 1027 tyq70 [56000, 56001, 56002, 56003, 71012, 97999, 114999] hq70 hq70 := gSs.rf xq70.1
      have hl87 : 1024 ≤ hq70.2.2.2.1 bt ∧ hq70.2.2.2.1 bt ≤ 1000000 := gJ.rowl (G := gGG) sS86.1 t74 rfl
      have hl88 : 1024 ≤ hq70.2.2.2.1 cq31_0 ∧ hq70.2.2.2.1 cq31_0 ≤ 1000000 := gJ.rowl (G := gGG) sS86.1 t77 rfl
      have hl89 : 1024 ≤ hq70.2.2.2.1 cq70_0 ∧ hq70.2.2.2.1 cq70_0 ≤ 1000000 := gJ.rowl (G := gGG) sS86.1 tcq70_0 rfl
      have G90 : gSg [114] [] [56000, 56001, 56002, 56003, 71012, 97999, 114999] ty h tyq70 hq70 := gSg.ss G71 sS86 (by decide)
      exact gz_end (I := .return_) (len := 1) rfl (Or.inl rfl) ⟨tyq70, G90, cq70_0, trivial, fq70_0, fq70_1, ecq70_0, tcq70_0, rfl, efq70_0, (by omega), (by omega), efq70_1, (by omega), (by omega), (by omega), (by omega), (by omega), (by dsimp only; omega), (by dsimp only; omega), (by dsimp only; omega), (by dsimp only; omega)⟩
  · refine gy_ifF rfl (by decide) (by decide) (by omega) hc7 ?_
    refine gy_s 5 (pc' := 24) (L' := [some (.ref x), some (.int (zi p)), some (.int (zi z5)), none, none]) (S' := [.int (zi 1), .int ((zi z5) &&& (zi 1)), .ref x]) (L2 := [some (.ref x), some (.int (zi p)), some (.int (zi z5)), none, none]) (S2 := [.int (zi 1), .int (zi (z5 % 2)), .ref x]) rfl (by simp only [zi_add, zi_sub, zi_mul, zi_neg, zi_and1, zi_and7, zi_and15, zi_and31, zi_and255]) (by simp only [zi_add, zi_sub, zi_mul, zi_neg, zi_and1, zi_and7, zi_and15, zi_and31, zi_and255]) ?_
    have hl91 : h.2.2.2.1 bt = h.2.2.2.1 bt := congrFun hS.2.2.2.2.1 bt
    refine gz_call rfl (by decide) rfl (by decide) (by decide) (gcal_of rfl rfl rfl (Nat.le_of_ble_eq_true rfl) (gJ.recv (G := gGG) hS.1 tx rfl rfl)) (cl_Writer_putPlain _ hS.1 x tx (z5 % 2) (by omega) 1 (by omega) sk esk tsk bt ebt tbt c0 ec0 (by omega) h0 eh0 (by omega) cg ecg (by omega) (by omega) (by omega) uq) (fun q92 _ wq92 => ?_)
    obtain ⟨pq92, oq92, hq92⟩ := q92
    obtain ⟨tyq92, xq92, cq92_0, ttq92, fq92_0, fq92_1, ecq92_0, tcq92_0, gq92, efq92_0, afq92_0, bfq92_0, efq92_1, afq92_1, bfq92_1, uq92_0, uq92_1, uq92_2, uq92_3, uq92_4, uq92_5, uq92_6⟩ := wq92
    dsimp only at uq92_3 uq92_4 uq92_5 uq92_6
    refine ⟨_, gq92, ?_⟩
    show gz gPP gGG gcn _ _ 27 [some (.ref x), some (.int (zi p)), some (.int (zi z5)), none, none] [] hq92 _
    have G93 : gSg [114] [] [56000, 56001, 56002, 56003, 71012, 97999, 114999] ty h tyq92 hq92 := gSg.tr (gSg.ss G0 hS (by decide)) xq92 (by decide) (by decide) (fun x hx => by cases hx)
    have t94 : tyq92 x = 71 := gSg.typ xq92 hS.1 tx rfl
    have t95 : tyq92 sk = 56 := gSg.typ xq92 hS.1 tsk rfl
    have t96 : tyq92 bt = 114 := gSg.typ xq92 hS.1 tbt rfl
    have hl97 : hq92.2.2.2.1 bt = h.2.2.2.1 bt := gSg.len xq92 hS.1 tbt rfl
    have t98 : tyq92 c1 = 73 := gSg.typ xq92 hS.1 tc1 rfl
    have s99 := gSg.at xq92 hS.1 tx rfl (by decide) esk
    have s100 := gSg.at xq92 hS.1 tx rfl (by decide) ecg
    have s101 := gSg.at xq92 hS.1 tx rfl (by decide) ec1
    have s102 := gSg.at xq92 hS.1 tx rfl (by decide) ez4
    have s103 := gSg.at xq92 hS.1 tx rfl (by decide) ez6
    have uq104 := gSg.uq xq92 uq (by decide)
    have sS105 : gSs rT 1027 tyq92 [56000, 56001, 56002, 56003, 71012, 97999, 114999] hq92 hq92 := gSs.rf xq92.1
    have hl106 : 1024 ≤ hq92.2.2.2.1 bt ∧ hq92.2.2.2.1 bt ≤ 1000000 := gJ.rowl (G := gGG) sS105.1 t96 rfl
    have hl107 : 1024 ≤ hq92.2.2.2.1 cq92_0 ∧ hq92.2.2.2.1 cq92_0 ≤ 1000000 := gJ.rowl (G := gGG) sS105.1 tcq92_0 rfl
    have G108 : gSg [114] [] [56000, 56001, 56002, 56003, 71012, 97999, 114999] ty h tyq92 hq92 := gSg.ss G93 sS105 (by decide)
    exact gz_end (I := .return_) (len := 1) rfl (Or.inl rfl) ⟨tyq92, G108, cq92_0, trivial, fq92_0, fq92_1, ecq92_0, tcq92_0, rfl, efq92_0, (by omega), (by omega), efq92_1, (by omega), (by omega), (by omega), (by omega), (by omega), (by dsimp only; omega), (by dsimp only; omega), (by dsimp only; omega), (by dsimp only; omega)⟩
