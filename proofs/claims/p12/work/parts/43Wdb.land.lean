/-! ===== methods of the landed text (by program) ===== -/
theorem e_hmc {k l ln z y : Int} (h1 : k ≤ ln ↔ k ≤ l) (h2 : z = y ∨ k ≤ l) (h3 : (y - z) % 16 = 0) (h4 : z ≤ 15 ∨ ¬ k ≤ ln) : (k ≤ l ∧ z ≤ 15 ∧ (y - z) % 16 = 0) ∨ (¬ k ≤ l ∧ z = y) := by omega
theorem eeRk_1v {T : Type} {sy : Int → T → T} {pl : Int → Nat → T → T} {lw p fr tt k : Int} {cf : Nat → Int} {t : T} {v a s V x y : Int} {er ew : Int × Int × Nat × T} (her : er = eeRk sy pl lw cf p fr tt t k) (hew : ew = eeWk sy pl er x y) (h0 : 0 ≤ fr) (hp : 0 ≤ p) (hk : fr ≤ k) (e : cf (p + k).toNat = v) (ea : a = eeA v / 2 ^ lw.toNat) (h1 : a = 1) (ex : x = er.1) (hx : 0 ≤ y ∧ y ≤ x) (hm : (k ≤ eeLk lw cf p fr tt ∧ y ≤ 15 ∧ (x - y) % 16 = 0) ∨ (¬ k ≤ eeLk lw cf p fr tt ∧ y = x)) (ey : y = ew.1) (es : s = 16 * (y % 16) + 1) (eV : V = if v < 0 then 0 else 1) : eeRk sy pl lw cf p fr tt t (k + 1) = (0, ew.2.1, 0, pl ew.2.1 ew.2.2.1 (pl V 1 (sy s ew.2.2.2))) := by
  have h := eeRk_1 (sy := sy) (pl := pl) (t := t) h0 hp hk e ea h1 (by rw [← her]; exact ex) hx hm (by rw [← her, ← hew]; exact ey) es eV
  rw [← her, ← hew] at h
  exact h
set_option maxRecDepth 20000 in
set_option maxHeartbeats 4000000 in
theorem cw_refineOthers (d : Nat) {ty : Nat → Nat} {h : gH} (hJ : gJ rT 1027 ty h) (x : Nat) (tx : ty x = 71) (p : Int) (rp : 0 ≤ p ∧ p ≤ 960) (sk : Nat) (esk : h.2.2.2.2 x 0 = .ref sk) (tsk : ty sk = 56) (bt : Nat) (ebt : h.2.2.2.2 sk 0 = .ref bt) (tbt : ty bt = 114) (c0 : Int) (ec0 : h.2.2.2.2 sk 1 = .int (zi c0)) (rc0 : 0 ≤ c0 ∧ c0 ≤ 499999) (u0 : Int) (eu0 : h.2.2.2.2 sk 2 = .int (zi u0)) (ru0 : 0 ≤ u0 ∧ u0 ≤ 127) (h0 : Int) (eh0 : h.2.2.2.2 sk 3 = .int (zi h0)) (rh0 : 0 ≤ h0 ∧ h0 ≤ 7) (cg : Int) (ecg : h.2.2.2.2 x 11 = .int (zi cg)) (rcg : 0 ≤ cg ∧ cg ≤ 0) (fr : Int) (efr : h.2.2.2.2 x 7 = .int (zi fr)) (rfr : 0 ≤ fr ∧ fr ≤ 63) (tt : Int) (ett : h.2.2.2.2 x 8 = .int (zi tt)) (rtt : 0 ≤ tt ∧ tt ≤ 63) (lw : Int) (elw : h.2.2.2.2 x 10 = .int (zi lw)) (rlw : 0 ≤ lw ∧ lw ≤ 3) (bs : Int) (ebs : h.2.2.2.2 x 5 = .int (zi bs)) (rbs : 0 ≤ bs ∧ bs ≤ 16) (cf : Nat → Int) (sg : gWt) (ec79 : Nat → Int × Int) (pp0 : c0 = sg.1) (pp1 : u0 = sg.2.1) (pp2 : h0 = sg.2.2.1) (pp3 : 4 * c0 + h0 + 320 * (tt - fr + 3) ≤ 1999990) (pp4 : p + 64 ≤ 64 * bs) (pp5 : fr ≤ tt) (pp6 : c0 ≤ (h.2.2.2.1 bt : Int)) (uq : gUq ty) (hysw : gSW ty bt sg h) (hyok : eeOk sg) (hytb79 : gTab (True) ty 78 79 ec79 h) (hyf73 : gRn (64 * bs).toNat ty 73 cf h) : gz gPP gGG gcn (d + 5) gt117 0 (gent [.ref x, .int (zi p)] 7) [] h (fun q _ => ∃ ty9 : Nat → Nat, gSg [114] [] [56000, 56001, 56002, 56003, 71013, 71014, 114999] ty h ty9 q.2.2 ∧ ∃ bt2 : Nat, True ∧ ∃ c1 u1 h1 : Int, q.2.2.2.2.2.2 sk 0 = .ref bt2 ∧ ty9 bt2 = 114 ∧ gfin gt117 q.1 q.2.1 = some none ∧ q.2.2.2.2.2.2 sk 1 = .int (zi c1) ∧ 0 ≤ c1 ∧ c1 ≤ 500000 ∧ q.2.2.2.2.2.2 sk 2 = .int (zi u1) ∧ 0 ≤ u1 ∧ u1 ≤ 127 ∧ q.2.2.2.2.2.2 sk 3 = .int (zi h1) ∧ 0 ≤ h1 ∧ h1 ≤ 7 ∧ (c1 = (eeRz (ewS ec79) eeN lw cf p fr tt sg).1) ∧ (u1 = (eeRz (ewS ec79) eeN lw cf p fr tt sg).2.1) ∧ (h1 = (eeRz (ewS ec79) eeN lw cf p fr tt sg).2.2.1) ∧ (4 * c1 + h1 ≤ 4 * c0 + h0 + 320 * (tt - fr + 1)) ∧ (c0 ≤ c1) ∧ (1024 * ((q.2.2.1 : Int) - h.1) ≤ (q.2.2.2.2.2.1 bt2 : Int) - h.2.2.2.1 bt) ∧ (((q.2.2.2.1 : Int) - h.2.1) ≤ 2 * ((q.2.2.2.2.2.1 bt2 : Int) - h.2.2.2.1 bt)) ∧ ((h.2.2.2.1 bt : Int) ≤ (q.2.2.2.2.2.1 bt2 : Int)) ∧ (c1 ≤ (q.2.2.2.2.2.1 bt2 : Int)) ∧ (gSW ty9 bt2 (eeRz (ewS ec79) eeN lw cf p fr tt sg) q.2.2) ∧ (eeOk (eeRz (ewS ec79) eeN lw cf p fr tt sg))) := by
  have hS : gSs rT 1027 ty [56000, 56001, 56002, 56003, 71013, 71014, 114999] h h := gSs.rf hJ
  have G0 : gSg [114] [] [56000, 56001, 56002, 56003, 71013, 71014, 114999] ty h ty h := gSg.rf hJ (fun x hx => by cases hx)
  refine gz_s 2 (pc' := 2) (L' := [some (.ref x), some (.int (zi p)), none, none, none, none, none]) (S' := [.int (zi p), .ref x]) rfl ?_
  refine gz_call rfl (by decide) rfl (by decide) (by decide) (gcal_of rfl rfl rfl (Nat.le_of_ble_eq_true rfl) (gJ.recv (G := gGG) hS.1 tx rfl rfl)) (cw_lastNew _ hS.1 x tx p ⟨by omega, by omega⟩ fr efr ⟨by omega, by omega⟩ tt ett ⟨by omega, by omega⟩ lw elw ⟨by omega, by omega⟩ bs ebs ⟨by omega, by omega⟩ cf (by omega) (by omega) uq hyf73) (fun q1 _ wq1 => ?_)
  obtain ⟨pq1, oq1, hq1⟩ := q1
  obtain ⟨xq1, zq1, gq1, aq1, bq1, uq1_0⟩ := wq1
  refine ⟨_, gq1, ?_⟩
  show gz gPP gGG gcn _ _ 5 [some (.ref x), some (.int (zi p)), none, none, none, none, none] [.int (zi zq1)] hq1 _
  have sq1 : gSs rT 1027 ty [56000, 56001, 56002, 56003, 71013, 71014, 114999] h hq1 := gSs.tr hS xq1 (by decide)
  have s2 := (xq1.2.2.2.2.2 x 0 (by rw [tx]; decide)).trans esk
  have s3 := (xq1.2.2.2.2.2 sk 0 (by rw [tsk]; decide)).trans ebt
  have s4 := (xq1.2.2.2.2.2 sk 1 (by rw [tsk]; decide)).trans ec0
  have s5 := (xq1.2.2.2.2.2 sk 2 (by rw [tsk]; decide)).trans eu0
  have s6 := (xq1.2.2.2.2.2 sk 3 (by rw [tsk]; decide)).trans eh0
  have s7 := (xq1.2.2.2.2.2 x 11 (by rw [tx]; decide)).trans ecg
  have s8 := (xq1.2.2.2.2.2 x 7 (by rw [tx]; decide)).trans efr
  have s9 := (xq1.2.2.2.2.2 x 8 (by rw [tx]; decide)).trans ett
  have s10 := (xq1.2.2.2.2.2 x 10 (by rw [tx]; decide)).trans elw
  have s11 := (xq1.2.2.2.2.2 x 5 (by rw [tx]; decide)).trans ebs
  have pr12 := gSW.fr xq1.2 (by decide) hysw
  have pr13 := gTab.fr xq1.2 (fun _ => rfl) (fun _ => rfl) (by decide) (by decide) hytb79
  have pr14 := gRn.fr xq1.2 (by decide) hyf73
  have hlk9 : zq1 = eeLk lw cf p fr tt := uq1_0
  refine gz_s 5 (pc' := 10) (L' := [some (.ref x), some (.int (zi p)), some (.int (zi zq1)), some (.int (zi 0)), none, none, none]) (S' := [.int (zi 0), .ref x]) rfl ?_
  refine gs_put rfl (by decide) rfl sq1 tx rfl rfl rfl rfl (Or.inl rfl) (by decide) (by omega) (by omega) (fun h15 sh15 eh15 fh15 => ?_)
  have pr16 := gSW.pt fh15 tx (by decide) pr12
  have pr17 := gTab.pt fh15 tx (by decide) (by decide) pr13
  have pr18 := gRn.pt fh15 tx (by decide) pr14
  have s19 := (fh15 x 0 (fun q => absurd q.2 (by decide))).trans s2
  have s20 := (fh15 sk 0 (fun q => absurd q.2 (by decide))).trans s3
  have s21 := (fh15 sk 1 (fun q => absurd q.2 (by decide))).trans s4
  have s22 := (fh15 sk 2 (fun q => absurd q.2 (by decide))).trans s5
  have s23 := (fh15 sk 3 (fun q => absurd q.2 (by decide))).trans s6
  have s24 := (fh15 x 11 (fun q => absurd q.2 (by decide))).trans s7
  have s25 := (fh15 x 7 (fun q => absurd q.2 (by decide))).trans s8
  have s26 := (fh15 x 8 (fun q => absurd q.2 (by decide))).trans s9
  have s27 := (fh15 x 10 (fun q => absurd q.2 (by decide))).trans s10
  have s28 := (fh15 x 5 (fun q => absurd q.2 (by decide))).trans s11
  refine gz_s 1 (pc' := 14) (L' := [some (.ref x), some (.int (zi p)), some (.int (zi zq1)), some (.int (zi 0)), none, none, none]) (S' := [.ref x]) rfl ?_
  refine gs_gtk rfl (by decide) rfl sh15.1 tx rfl rfl s25 ?_
  refine gz_s 1 (pc' := 19) (L' := [some (.ref x), some (.int (zi p)), some (.int (zi zq1)), some (.int (zi 0)), some (.int (zi fr)), none, none]) (S' := []) rfl ?_
  have hk30 : (eeRk (ewS ec79) eeN lw cf p fr tt sg fr).2.2.2 = sg := by rw [eeRk_0]
  have hk30_1 : ((eeRk (ewS ec79) eeN lw cf p fr tt sg fr).2.2.2).1 = (sg).1 := by rw [hk30]
  have hk30_21 : ((eeRk (ewS ec79) eeN lw cf p fr tt sg fr).2.2.2).2.1 = (sg).2.1 := by rw [hk30]
  have hk30_221 : ((eeRk (ewS ec79) eeN lw cf p fr tt sg fr).2.2.2).2.2.1 = (sg).2.2.1 := by rw [hk30]
  have hsw31 : gSW ty bt ((eeRk (ewS ec79) eeN lw cf p fr tt sg fr).2.2.2) h15 := by rw [hk30]; exact pr16
  have hok32 : eeOk ((eeRk (ewS ec79) eeN lw cf p fr tt sg fr).2.2.2) := by rw [hk30]; exact hyok
  have hoc33 := hok32.cur
  have hwq34 : gJv ty x (eeRk (ewS ec79) eeN lw cf p fr tt sg fr).2.1 (eeRk (ewS ec79) eeN lw cf p fr tt sg fr).2.2.1 h15 := by rw [eeRk_0]; exact gJv.start sh15.1 tx
  have lp29 : ∀ (fu : Nat) (ty36 : Nat → Nat) (h35 : gH) (bv : Nat) (rn : Int) (k : Int) (cv : Int) (uv : Int) (hv : Int) (wv : Int), (65 - k).toNat < fu → gSg [114] [] [56000, 56001, 56002, 56003, 71013, 71014, 114999] ty h ty36 h35 → gUq ty36 → ty36 x = 71 → ty36 sk = 56 → h35.2.2.2.2 sk 0 = .ref bv → ty36 bv = 114 → (0 ≤ rn ∧ rn ≤ 64) → (0 ≤ k ∧ k ≤ 64) → (0 ≤ cv ∧ cv ≤ 499999) → (0 ≤ uv ∧ uv ≤ 127) → (0 ≤ hv ∧ hv ≤ 7) → (0 ≤ wv ∧ wv ≤ 64) → (rn = (eeRk (ewS ec79) eeN lw cf p fr tt sg k).1) → (wv = (((eeRk (ewS ec79) eeN lw cf p fr tt sg k).2.2.1 : Nat) : Int)) → (fr ≤ k) → (k ≤ tt + 1) → (rn + wv ≤ k - fr) → (cv = ((eeRk (ewS ec79) eeN lw cf p fr tt sg k).2.2.2).1) → (uv = ((eeRk (ewS ec79) eeN lw cf p fr tt sg k).2.2.2).2.1) → (hv = ((eeRk (ewS ec79) eeN lw cf p fr tt sg k).2.2.2).2.2.1) → (4 * cv + hv + 320 * rn + 310 * wv ≤ 4 * c0 + h0 + 320 * (k - fr)) → (c0 ≤ cv) → (1024 * ((h35.1 : Int) - h.1) ≤ (h35.2.2.2.1 bv : Int) - h.2.2.2.1 bt) → (((h35.2.1 : Int) - h.2.1) ≤ 2 * ((h35.2.2.2.1 bv : Int) - h.2.2.2.1 bt)) → ((h.2.2.2.1 bt : Int) ≤ (h35.2.2.2.1 bv : Int)) → (cv ≤ (h35.2.2.2.1 bv : Int)) → h35.2.2.2.2 x 0 = .ref sk → h35.2.2.2.2 x 11 = .int (zi cg) → h35.2.2.2.2 x 7 = .int (zi fr) → h35.2.2.2.2 x 8 = .int (zi tt) → h35.2.2.2.2 x 10 = .int (zi lw) → h35.2.2.2.2 x 5 = .int (zi bs) → h35.2.2.2.2 sk 1 = .int (zi cv) → h35.2.2.2.2 sk 2 = .int (zi uv) → h35.2.2.2.2 sk 3 = .int (zi hv) → h35.2.2.2.2 x 14 = .int (zi wv) → gTab (True) ty36 78 79 ec79 h35 → gRn (64 * bs).toNat ty36 73 cf h35 → gSW ty36 bv ((eeRk (ewS ec79) eeN lw cf p fr tt sg k).2.2.2) h35 → eeOk ((eeRk (ewS ec79) eeN lw cf p fr tt sg k).2.2.2) → gJv ty36 x ((eeRk (ewS ec79) eeN lw cf p fr tt sg k).2.1) ((eeRk (ewS ec79) eeN lw cf p fr tt sg k).2.2.1) h35 → gz gPP gGG gcn (d + 5) gt117 19 [some (.ref x), some (.int (zi p)), some (.int (zi zq1)), some (.int (zi rn)), some (.int (zi k)), none, none] [] h35 (fun q _ => ∃ ty9 : Nat → Nat, gSg [114] [] [56000, 56001, 56002, 56003, 71013, 71014, 114999] ty h ty9 q.2.2 ∧ ∃ bt2 : Nat, True ∧ ∃ c1 u1 h1 : Int, q.2.2.2.2.2.2 sk 0 = .ref bt2 ∧ ty9 bt2 = 114 ∧ gfin gt117 q.1 q.2.1 = some none ∧ q.2.2.2.2.2.2 sk 1 = .int (zi c1) ∧ 0 ≤ c1 ∧ c1 ≤ 500000 ∧ q.2.2.2.2.2.2 sk 2 = .int (zi u1) ∧ 0 ≤ u1 ∧ u1 ≤ 127 ∧ q.2.2.2.2.2.2 sk 3 = .int (zi h1) ∧ 0 ≤ h1 ∧ h1 ≤ 7 ∧ (c1 = (eeRz (ewS ec79) eeN lw cf p fr tt sg).1) ∧ (u1 = (eeRz (ewS ec79) eeN lw cf p fr tt sg).2.1) ∧ (h1 = (eeRz (ewS ec79) eeN lw cf p fr tt sg).2.2.1) ∧ (4 * c1 + h1 ≤ 4 * c0 + h0 + 320 * (tt - fr + 1)) ∧ (c0 ≤ c1) ∧ (1024 * ((q.2.2.1 : Int) - h.1) ≤ (q.2.2.2.2.2.1 bt2 : Int) - h.2.2.2.1 bt) ∧ (((q.2.2.2.1 : Int) - h.2.1) ≤ 2 * ((q.2.2.2.2.2.1 bt2 : Int) - h.2.2.2.1 bt)) ∧ ((h.2.2.2.1 bt : Int) ≤ (q.2.2.2.2.2.1 bt2 : Int)) ∧ (c1 ≤ (q.2.2.2.2.2.1 bt2 : Int)) ∧ (gSW ty9 bt2 (eeRz (ewS ec79) eeN lw cf p fr tt sg) q.2.2) ∧ (eeOk (eeRz (ewS ec79) eeN lw cf p fr tt sg))) := by
    intro fu
    induction fu with
    | zero => intro ty36 h35 bv rn k cv uv hv wv hm; exact absurd hm (Nat.not_lt_zero _)
    | succ fu ihlp29 =>
      intro ty36 h35 bv rn k cv uv hv wv lp29m lp29G lp29u lp29c0 lp29c1 lp29r0 lp29r1 lp29f0 lp29f1 lp29f2 lp29f3 lp29f4 lp29f5 lp29f6 lp29f7 lp29f8 lp29f9 lp29f10 lp29f11 lp29f12 lp29f13 lp29f14 lp29f15 lp29f16 lp29f17 lp29f18 lp29f19 lp29k0 lp29k1 lp29k2 lp29k3 lp29k4 lp29k5 lp29k6 lp29k7 lp29k8 lp29k9 lp29k10 lp29k11 lp29k12 lp29k13 lp29k14
      have sh35 : gSs rT 1027 ty36 [56000, 56001, 56002, 56003, 71013, 71014, 114999] h35 h35 := gSs.rf lp29G.1
      obtain ⟨er, her⟩ : ∃ x9 : Int × Int × Nat × gWt, x9 = eeRk (ewS ec79) eeN lw cf p fr tt sg k := ⟨_, rfl⟩
      rw [← her] at lp29f6 lp29f7 lp29f11 lp29f12 lp29f13 lp29k12 lp29k13 lp29k14
      refine gz_s 2 (pc' := 22) (L' := [some (.ref x), some (.int (zi p)), some (.int (zi zq1)), some (.int (zi rn)), some (.int (zi k)), none, none]) (S' := [.ref x, .int (zi k)]) rfl ?_
      refine gs_gtk rfl (by decide) rfl sh35.1 lp29c0 rfl rfl lp29k3 ?_
      by_cases hc37 : (tt : Int) < k
      · refine gy_icT (pc' := 167) rfl (by decide) (by decide) (by omega) (by omega) hc37 ?_
        refine gz_s 1 (pc' := 168) (L' := [some (.ref x), some (.int (zi p)), some (.int (zi zq1)), some (.int (zi rn)), some (.int (zi k)), none, none]) (S' := [.int (zi rn)]) rfl ?_
        by_cases hc38 : (0 : Int) < rn
        · refine gy_ifT (pc' := 178) rfl (by decide) (by decide) (by omega) hc38 ?_
          refine gz_s 3 (pc' := 181) (L' := [some (.ref x), some (.int (zi p)), some (.int (zi zq1)), some (.int (zi rn)), some (.int (zi k)), none, none]) (S' := [.int (zi 0), .int (zi 1), .ref x]) rfl ?_
          have hl39 : h35.2.2.2.1 bv = h35.2.2.2.1 bv := congrFun sh35.2.2.2.2.1 bv
          refine gz_call rfl (by decide) rfl (by decide) (by decide) (gcal_of rfl rfl rfl (Nat.le_of_ble_eq_true rfl) (gJ.recv (G := gGG) sh35.1 lp29c0 rfl rfl)) (cw_putSymbol1 _ sh35.1 x lp29c0 1 ⟨by omega, by omega⟩ 0 ⟨by omega, by omega⟩ sk lp29k0 lp29c1 bv lp29r0 lp29r1 cv lp29k6 ⟨by omega, by omega⟩ uv lp29k7 ⟨by omega, by omega⟩ hv lp29k8 ⟨by omega, by omega⟩ cg lp29k1 ⟨by omega, by omega⟩ er.2.2.2 ec79 (Int.le_antisymm (by omega) (by omega)) (Int.le_antisymm (by omega) (by omega)) (Int.le_antisymm (by omega) (by omega)) (by omega) (by omega) lp29u lp29k12 lp29k13 lp29k10) (fun q40 _ wq40 => ?_)
          obtain ⟨pq40, oq40, hq40⟩ := q40
          obtain ⟨tyq40, xq40, cq40_0, ttq40, fq40_0, fq40_1, fq40_2, ecq40_0, tcq40_0, gq40, efq40_0, afq40_0, bfq40_0, efq40_1, afq40_1, bfq40_1, efq40_2, afq40_2, bfq40_2, uq40_0, uq40_1, uq40_2, uq40_3, uq40_4, uq40_5, uq40_6, uq40_7, uq40_8, yq40_0, yq40_1⟩ := wq40
          dsimp only at uq40_5 uq40_6 uq40_7 uq40_8
          refine ⟨_, gq40, ?_⟩
          show gz gPP gGG gcn _ _ 184 [some (.ref x), some (.int (zi p)), some (.int (zi zq1)), some (.int (zi rn)), some (.int (zi k)), none, none] [] hq40 _
          have G41 : gSg [114] [] [56000, 56001, 56002, 56003, 71013, 71014, 114999] ty h tyq40 hq40 := gSg.tr (gSg.ss lp29G sh35 (by decide)) xq40 (by decide) (by decide) (fun x hx => by cases hx)
          have t42 : tyq40 x = 71 := gSg.typ xq40 sh35.1 lp29c0 rfl
          have t43 : tyq40 sk = 56 := gSg.typ xq40 sh35.1 lp29c1 rfl
          have t44 : tyq40 bv = 114 := gSg.typ xq40 sh35.1 lp29r1 rfl
          have hl45 : hq40.2.2.2.1 bv = h35.2.2.2.1 bv := gSg.len xq40 sh35.1 lp29r1 rfl
          have s46 := gSg.at xq40 sh35.1 lp29c0 rfl (by decide) lp29k0
          have s47 := gSg.at xq40 sh35.1 lp29c0 rfl (by decide) lp29k1
          have s48 := gSg.at xq40 sh35.1 lp29c0 rfl (by decide) lp29k2
          have s49 := gSg.at xq40 sh35.1 lp29c0 rfl (by decide) lp29k3
          have s50 := gSg.at xq40 sh35.1 lp29c0 rfl (by decide) lp29k4
          have s51 := gSg.at xq40 sh35.1 lp29c0 rfl (by decide) lp29k5
          have s52 := gSg.at xq40 sh35.1 lp29c0 rfl (by decide) lp29k9
          have pr53 := gTab.gr xq40 sh35.1 rfl rfl (fun _ => rfl) (fun _ => rfl) (by decide) (by decide) (by decide) (by decide) lp29k10
          have pr54 := gRn.gr xq40 sh35.1 rfl (by decide) (by decide) lp29k11
          have pr55 := gJv.gr xq40 sh35.1 (by decide) lp29k14
          have uq56 := gSg.uq xq40 lp29u (by decide)
          have sS57 : gSs rT 1027 tyq40 [56000, 56001, 56002, 56003, 71013, 71014, 114999] hq40 hq40 := gSs.rf xq40.1
          have hwq58e : Int.toNat wv = er.2.2.1 := (congrArg Int.toNat lp29f7).trans (Int.toNat_natCast _)
          have hwq58 : gJv tyq40 x er.2.1 (Int.toNat wv) hq40 := by rw [hwq58e]; exact pr55
          refine gz_s 1 (pc' := 185) (L' := [some (.ref x), some (.int (zi p)), some (.int (zi zq1)), some (.int (zi rn)), some (.int (zi k)), none, none]) (S' := [.ref x]) rfl ?_
          have hl59 : hq40.2.2.2.1 cq40_0 = hq40.2.2.2.1 cq40_0 := congrFun sS57.2.2.2.2.1 cq40_0
          refine gz_call rfl (by decide) rfl (by decide) (by decide) (gcal_of rfl rfl rfl (Nat.le_of_ble_eq_true rfl) (gJ.recv (G := gGG) sS57.1 t42 rfl rfl)) (cw_putWaiting _ sS57.1 x t42 sk s46 t43 cq40_0 ecq40_0 tcq40_0 fq40_0 efq40_0 ⟨by omega, by omega⟩ fq40_1 efq40_1 ⟨by omega, by omega⟩ fq40_2 efq40_2 ⟨by omega, by omega⟩ cg s47 ⟨by omega, by omega⟩ wv s52 ⟨by omega, by omega⟩ (ewS ec79 0 er.2.2.2) er.2.1 (Int.le_antisymm (by omega) (by omega)) (Int.le_antisymm (by omega) (by omega)) (Int.le_antisymm (by omega) (by omega)) (by omega) (by omega) uq56 yq40_0 yq40_1 hwq58) (fun q60 _ wq60 => ?_)
          obtain ⟨pq60, oq60, hq60⟩ := q60
          obtain ⟨tyq60, xq60, cq60_0, ttq60, fq60_0, fq60_1, fq60_2, fq60_3, ecq60_0, tcq60_0, gq60, efq60_0, afq60_0, bfq60_0, efq60_1, afq60_1, bfq60_1, efq60_2, afq60_2, bfq60_2, efq60_3, afq60_3, bfq60_3, uq60_0, uq60_1, uq60_2, uq60_3, uq60_4, uq60_5, uq60_6, uq60_7, uq60_8, uq60_9, yq60_0, yq60_1, yq60_2⟩ := wq60
          dsimp only at uq60_5 uq60_6 uq60_7 uq60_9
          refine ⟨_, gq60, ?_⟩
          show gz gPP gGG gcn _ _ 188 [some (.ref x), some (.int (zi p)), some (.int (zi zq1)), some (.int (zi rn)), some (.int (zi k)), none, none] [] hq60 _
          have G61 : gSg [114] [] [56000, 56001, 56002, 56003, 71013, 71014, 114999] ty h tyq60 hq60 := gSg.tr (gSg.ss G41 sS57 (by decide)) xq60 (by decide) (by decide) (fun x hx => by cases hx)
          have t62 : tyq60 x = 71 := gSg.typ xq60 sS57.1 t42 rfl
          have t63 : tyq60 sk = 56 := gSg.typ xq60 sS57.1 t43 rfl
          have t64 : tyq60 bv = 114 := gSg.typ xq60 sS57.1 t44 rfl
          have hl65 : hq60.2.2.2.1 bv = hq40.2.2.2.1 bv := gSg.len xq60 sS57.1 t44 rfl
          have t66 : tyq60 cq40_0 = 114 := gSg.typ xq60 sS57.1 tcq40_0 rfl
          have hl67 : hq60.2.2.2.1 cq40_0 = hq40.2.2.2.1 cq40_0 := gSg.len xq60 sS57.1 tcq40_0 rfl
          have s68 := gSg.at xq60 sS57.1 t42 rfl (by decide) s46
          have s69 := gSg.at xq60 sS57.1 t42 rfl (by decide) s47
          have s70 := gSg.at xq60 sS57.1 t42 rfl (by decide) s48
          have s71 := gSg.at xq60 sS57.1 t42 rfl (by decide) s49
          have s72 := gSg.at xq60 sS57.1 t42 rfl (by decide) s50
          have s73 := gSg.at xq60 sS57.1 t42 rfl (by decide) s51
          have pr74 := gTab.gr xq60 sS57.1 rfl rfl (fun _ => rfl) (fun _ => rfl) (by decide) (by decide) (by decide) (by decide) pr53
          have pr75 := gRn.gr xq60 sS57.1 rfl (by decide) (by decide) pr54
          have pr76 := gJv.gr xq60 sS57.1 (by decide) hwq58
          have uq77 := gSg.uq xq60 uq56 (by decide)
          have sS78 : gSs rT 1027 tyq60 [56000, 56001, 56002, 56003, 71013, 71014, 114999] hq60 hq60 := gSs.rf xq60.1
          have hk79 : eeN er.2.1 er.2.2.1 (ewS ec79 0 er.2.2.2) = eeN er.2.1 (Int.toNat wv) (ewS ec79 0 er.2.2.2) := by rw [hwq58e]
          have hk79_1 : (eeN er.2.1 er.2.2.1 (ewS ec79 0 er.2.2.2)).1 = (eeN er.2.1 (Int.toNat wv) (ewS ec79 0 er.2.2.2)).1 := by rw [hk79]
          have hk79_21 : (eeN er.2.1 er.2.2.1 (ewS ec79 0 er.2.2.2)).2.1 = (eeN er.2.1 (Int.toNat wv) (ewS ec79 0 er.2.2.2)).2.1 := by rw [hk79]
          have hk79_221 : (eeN er.2.1 er.2.2.1 (ewS ec79 0 er.2.2.2)).2.2.1 = (eeN er.2.1 (Int.toNat wv) (ewS ec79 0 er.2.2.2)).2.2.1 := by rw [hk79]
          have hsw80 : gSW tyq60 cq60_0 (eeN er.2.1 er.2.2.1 (ewS ec79 0 er.2.2.2)) hq60 := by rw [hk79]; exact yq60_0
          have hok81 : eeOk (eeN er.2.1 er.2.2.1 (ewS ec79 0 er.2.2.2)) := by rw [hk79]; exact yq60_1
          have hoc82 := hok81.cur
          have hre := eeRk_e (sy := (ewS ec79)) (pl := eeN) (lw := lw) (p := p) (fr := fr) (tt := tt) (k := k) (cf := cf) (t := sg) (by omega) (by omega) (Int.le_antisymm (by omega) (by omega))
          rw [← her] at hre
          have hk83 : eeRz (ewS ec79) eeN lw cf p fr tt sg = eeN er.2.1 er.2.2.1 (ewS ec79 0 er.2.2.2) := hre.1 (by omega)
          have hk83_1 : (eeRz (ewS ec79) eeN lw cf p fr tt sg).1 = (eeN er.2.1 er.2.2.1 (ewS ec79 0 er.2.2.2)).1 := by rw [hk83]
          have hk83_21 : (eeRz (ewS ec79) eeN lw cf p fr tt sg).2.1 = (eeN er.2.1 er.2.2.1 (ewS ec79 0 er.2.2.2)).2.1 := by rw [hk83]
          have hk83_221 : (eeRz (ewS ec79) eeN lw cf p fr tt sg).2.2.1 = (eeN er.2.1 er.2.2.1 (ewS ec79 0 er.2.2.2)).2.2.1 := by rw [hk83]
          have hsw84 : gSW tyq60 cq60_0 (eeRz (ewS ec79) eeN lw cf p fr tt sg) hq60 := by rw [hk83]; exact hsw80
          have hok85 : eeOk (eeRz (ewS ec79) eeN lw cf p fr tt sg) := by rw [hk83]; exact hok81
          have hoc86 := hok85.cur
          have hl87 : 1024 ≤ hq60.2.2.2.1 bv ∧ hq60.2.2.2.1 bv ≤ 1000000 := gJ.rowl (G := gGG) sS78.1 t64 rfl
          have hl88 : 1024 ≤ hq60.2.2.2.1 cq40_0 ∧ hq60.2.2.2.1 cq40_0 ≤ 1000000 := gJ.rowl (G := gGG) sS78.1 t66 rfl
          have hl89 : 1024 ≤ hq60.2.2.2.1 cq60_0 ∧ hq60.2.2.2.1 cq60_0 ≤ 1000000 := gJ.rowl (G := gGG) sS78.1 tcq60_0 rfl
          have G90 : gSg [114] [] [56000, 56001, 56002, 56003, 71013, 71014, 114999] ty h tyq60 hq60 := gSg.ss G61 sS78 (by decide)
          exact gz_end (I := .return_) (len := 1) rfl (Or.inl rfl) ⟨tyq60, G90, cq60_0, trivial, fq60_0, fq60_1, fq60_2, ecq60_0, tcq60_0, rfl, efq60_0, (by omega), (by omega), efq60_1, (by omega), (by omega), efq60_2, (by omega), (by omega), (Int.le_antisymm (by omega) (by omega)), (Int.le_antisymm (by omega) (by omega)), (Int.le_antisymm (by omega) (by omega)), (by omega), (by omega), (by dsimp only; omega), (by dsimp only; omega), (by dsimp only; omega), (by dsimp only; omega), hsw84, hok85⟩
        · refine gy_ifF rfl (by decide) (by decide) (by omega) hc38 ?_
          refine gz_s 1 (pc' := 172) (L' := [some (.ref x), some (.int (zi p)), some (.int (zi zq1)), some (.int (zi rn)), some (.int (zi k)), none, none]) (S' := [.ref x]) rfl ?_
          refine gs_gtk rfl (by decide) rfl sh35.1 lp29c0 rfl rfl lp29k9 ?_
          by_cases hc91 : (wv : Int) ≤ 0
          · refine gy_ifT (pc' := 188) rfl (by decide) (by decide) (by omega) hc91 ?_
            have hre := eeRk_e (sy := (ewS ec79)) (pl := eeN) (lw := lw) (p := p) (fr := fr) (tt := tt) (k := k) (cf := cf) (t := sg) (by omega) (by omega) (Int.le_antisymm (by omega) (by omega))
            rw [← her] at hre
            have hk92 : eeRz (ewS ec79) eeN lw cf p fr tt sg = er.2.2.2 := hre.2 (by omega)
            have hk92_1 : (eeRz (ewS ec79) eeN lw cf p fr tt sg).1 = (er.2.2.2).1 := by rw [hk92]
            have hk92_21 : (eeRz (ewS ec79) eeN lw cf p fr tt sg).2.1 = (er.2.2.2).2.1 := by rw [hk92]
            have hk92_221 : (eeRz (ewS ec79) eeN lw cf p fr tt sg).2.2.1 = (er.2.2.2).2.2.1 := by rw [hk92]
            have hsw93 : gSW ty36 bv (eeRz (ewS ec79) eeN lw cf p fr tt sg) h35 := by rw [hk92]; exact lp29k12
            have hok94 : eeOk (eeRz (ewS ec79) eeN lw cf p fr tt sg) := by rw [hk92]; exact lp29k13
            have hoc95 := hok94.cur
            have hl96 : 1024 ≤ h35.2.2.2.1 bv ∧ h35.2.2.2.1 bv ≤ 1000000 := gJ.rowl (G := gGG) sh35.1 lp29r1 rfl
            have G97 : gSg [114] [] [56000, 56001, 56002, 56003, 71013, 71014, 114999] ty h ty36 h35 := gSg.ss lp29G sh35 (by decide)
            exact gz_end (I := .return_) (len := 1) rfl (Or.inl rfl) ⟨ty36, G97, bv, trivial, cv, uv, hv, lp29r0, lp29r1, rfl, lp29k6, (by omega), (by omega), lp29k7, (by omega), (by omega), lp29k8, (by omega), (by omega), (Int.le_antisymm (by omega) (by omega)), (Int.le_antisymm (by omega) (by omega)), (Int.le_antisymm (by omega) (by omega)), (by omega), (by omega), (by dsimp only; omega), (by dsimp only; omega), (by dsimp only; omega), (by dsimp only; omega), hsw93, hok94⟩
          · refine gy_ifF rfl (by decide) (by decide) (by omega) hc91 ?_
            refine gz_s 3 (pc' := 181) (L' := [some (.ref x), some (.int (zi p)), some (.int (zi zq1)), some (.int (zi rn)), some (.int (zi k)), none, none]) (S' := [.int (zi 0), .int (zi 1), .ref x]) rfl ?_
            have hl98 : h35.2.2.2.1 bv = h35.2.2.2.1 bv := congrFun sh35.2.2.2.2.1 bv
            refine gz_call rfl (by decide) rfl (by decide) (by decide) (gcal_of rfl rfl rfl (Nat.le_of_ble_eq_true rfl) (gJ.recv (G := gGG) sh35.1 lp29c0 rfl rfl)) (cw_putSymbol1 _ sh35.1 x lp29c0 1 ⟨by omega, by omega⟩ 0 ⟨by omega, by omega⟩ sk lp29k0 lp29c1 bv lp29r0 lp29r1 cv lp29k6 ⟨by omega, by omega⟩ uv lp29k7 ⟨by omega, by omega⟩ hv lp29k8 ⟨by omega, by omega⟩ cg lp29k1 ⟨by omega, by omega⟩ er.2.2.2 ec79 (Int.le_antisymm (by omega) (by omega)) (Int.le_antisymm (by omega) (by omega)) (Int.le_antisymm (by omega) (by omega)) (by omega) (by omega) lp29u lp29k12 lp29k13 lp29k10) (fun q99 _ wq99 => ?_)
            obtain ⟨pq99, oq99, hq99⟩ := q99
            obtain ⟨tyq99, xq99, cq99_0, ttq99, fq99_0, fq99_1, fq99_2, ecq99_0, tcq99_0, gq99, efq99_0, afq99_0, bfq99_0, efq99_1, afq99_1, bfq99_1, efq99_2, afq99_2, bfq99_2, uq99_0, uq99_1, uq99_2, uq99_3, uq99_4, uq99_5, uq99_6, uq99_7, uq99_8, yq99_0, yq99_1⟩ := wq99
            dsimp only at uq99_5 uq99_6 uq99_7 uq99_8
            refine ⟨_, gq99, ?_⟩
            show gz gPP gGG gcn _ _ 184 [some (.ref x), some (.int (zi p)), some (.int (zi zq1)), some (.int (zi rn)), some (.int (zi k)), none, none] [] hq99 _
            have G100 : gSg [114] [] [56000, 56001, 56002, 56003, 71013, 71014, 114999] ty h tyq99 hq99 := gSg.tr (gSg.ss lp29G sh35 (by decide)) xq99 (by decide) (by decide) (fun x hx => by cases hx)
            have t101 : tyq99 x = 71 := gSg.typ xq99 sh35.1 lp29c0 rfl
            have t102 : tyq99 sk = 56 := gSg.typ xq99 sh35.1 lp29c1 rfl
            have t103 : tyq99 bv = 114 := gSg.typ xq99 sh35.1 lp29r1 rfl
            have hl104 : hq99.2.2.2.1 bv = h35.2.2.2.1 bv := gSg.len xq99 sh35.1 lp29r1 rfl
            have s105 := gSg.at xq99 sh35.1 lp29c0 rfl (by decide) lp29k0
            have s106 := gSg.at xq99 sh35.1 lp29c0 rfl (by decide) lp29k1
            have s107 := gSg.at xq99 sh35.1 lp29c0 rfl (by decide) lp29k2
            have s108 := gSg.at xq99 sh35.1 lp29c0 rfl (by decide) lp29k3
            have s109 := gSg.at xq99 sh35.1 lp29c0 rfl (by decide) lp29k4
            have s110 := gSg.at xq99 sh35.1 lp29c0 rfl (by decide) lp29k5
            have s111 := gSg.at xq99 sh35.1 lp29c0 rfl (by decide) lp29k9
            have pr112 := gTab.gr xq99 sh35.1 rfl rfl (fun _ => rfl) (fun _ => rfl) (by decide) (by decide) (by decide) (by decide) lp29k10
            have pr113 := gRn.gr xq99 sh35.1 rfl (by decide) (by decide) lp29k11
            have pr114 := gJv.gr xq99 sh35.1 (by decide) lp29k14
            have uq115 := gSg.uq xq99 lp29u (by decide)
            have sS116 : gSs rT 1027 tyq99 [56000, 56001, 56002, 56003, 71013, 71014, 114999] hq99 hq99 := gSs.rf xq99.1
            have hwq117e : Int.toNat wv = er.2.2.1 := (congrArg Int.toNat lp29f7).trans (Int.toNat_natCast _)
            have hwq117 : gJv tyq99 x er.2.1 (Int.toNat wv) hq99 := by rw [hwq117e]; exact pr114
            refine gz_s 1 (pc' := 185) (L' := [some (.ref x), some (.int (zi p)), some (.int (zi zq1)), some (.int (zi rn)), some (.int (zi k)), none, none]) (S' := [.ref x]) rfl ?_
            have hl118 : hq99.2.2.2.1 cq99_0 = hq99.2.2.2.1 cq99_0 := congrFun sS116.2.2.2.2.1 cq99_0
            refine gz_call rfl (by decide) rfl (by decide) (by decide) (gcal_of rfl rfl rfl (Nat.le_of_ble_eq_true rfl) (gJ.recv (G := gGG) sS116.1 t101 rfl rfl)) (cw_putWaiting _ sS116.1 x t101 sk s105 t102 cq99_0 ecq99_0 tcq99_0 fq99_0 efq99_0 ⟨by omega, by omega⟩ fq99_1 efq99_1 ⟨by omega, by omega⟩ fq99_2 efq99_2 ⟨by omega, by omega⟩ cg s106 ⟨by omega, by omega⟩ wv s111 ⟨by omega, by omega⟩ (ewS ec79 0 er.2.2.2) er.2.1 (Int.le_antisymm (by omega) (by omega)) (Int.le_antisymm (by omega) (by omega)) (Int.le_antisymm (by omega) (by omega)) (by omega) (by omega) uq115 yq99_0 yq99_1 hwq117) (fun q119 _ wq119 => ?_)
            obtain ⟨pq119, oq119, hq119⟩ := q119
            obtain ⟨tyq119, xq119, cq119_0, ttq119, fq119_0, fq119_1, fq119_2, fq119_3, ecq119_0, tcq119_0, gq119, efq119_0, afq119_0, bfq119_0, efq119_1, afq119_1, bfq119_1, efq119_2, afq119_2, bfq119_2, efq119_3, afq119_3, bfq119_3, uq119_0, uq119_1, uq119_2, uq119_3, uq119_4, uq119_5, uq119_6, uq119_7, uq119_8, uq119_9, yq119_0, yq119_1, yq119_2⟩ := wq119
            dsimp only at uq119_5 uq119_6 uq119_7 uq119_9
            refine ⟨_, gq119, ?_⟩
            show gz gPP gGG gcn _ _ 188 [some (.ref x), some (.int (zi p)), some (.int (zi zq1)), some (.int (zi rn)), some (.int (zi k)), none, none] [] hq119 _
            have G120 : gSg [114] [] [56000, 56001, 56002, 56003, 71013, 71014, 114999] ty h tyq119 hq119 := gSg.tr (gSg.ss G100 sS116 (by decide)) xq119 (by decide) (by decide) (fun x hx => by cases hx)
            have t121 : tyq119 x = 71 := gSg.typ xq119 sS116.1 t101 rfl
            have t122 : tyq119 sk = 56 := gSg.typ xq119 sS116.1 t102 rfl
            have t123 : tyq119 bv = 114 := gSg.typ xq119 sS116.1 t103 rfl
            have hl124 : hq119.2.2.2.1 bv = hq99.2.2.2.1 bv := gSg.len xq119 sS116.1 t103 rfl
            have t125 : tyq119 cq99_0 = 114 := gSg.typ xq119 sS116.1 tcq99_0 rfl
            have hl126 : hq119.2.2.2.1 cq99_0 = hq99.2.2.2.1 cq99_0 := gSg.len xq119 sS116.1 tcq99_0 rfl
            have s127 := gSg.at xq119 sS116.1 t101 rfl (by decide) s105
            have s128 := gSg.at xq119 sS116.1 t101 rfl (by decide) s106
            have s129 := gSg.at xq119 sS116.1 t101 rfl (by decide) s107
            have s130 := gSg.at xq119 sS116.1 t101 rfl (by decide) s108
            have s131 := gSg.at xq119 sS116.1 t101 rfl (by decide) s109
            have s132 := gSg.at xq119 sS116.1 t101 rfl (by decide) s110
            have pr133 := gTab.gr xq119 sS116.1 rfl rfl (fun _ => rfl) (fun _ => rfl) (by decide) (by decide) (by decide) (by decide) pr112
            have pr134 := gRn.gr xq119 sS116.1 rfl (by decide) (by decide) pr113
            have pr135 := gJv.gr xq119 sS116.1 (by decide) hwq117
            have uq136 := gSg.uq xq119 uq115 (by decide)
            have sS137 : gSs rT 1027 tyq119 [56000, 56001, 56002, 56003, 71013, 71014, 114999] hq119 hq119 := gSs.rf xq119.1
            have hk138 : eeN er.2.1 er.2.2.1 (ewS ec79 0 er.2.2.2) = eeN er.2.1 (Int.toNat wv) (ewS ec79 0 er.2.2.2) := by rw [hwq117e]
            have hk138_1 : (eeN er.2.1 er.2.2.1 (ewS ec79 0 er.2.2.2)).1 = (eeN er.2.1 (Int.toNat wv) (ewS ec79 0 er.2.2.2)).1 := by rw [hk138]
            have hk138_21 : (eeN er.2.1 er.2.2.1 (ewS ec79 0 er.2.2.2)).2.1 = (eeN er.2.1 (Int.toNat wv) (ewS ec79 0 er.2.2.2)).2.1 := by rw [hk138]
            have hk138_221 : (eeN er.2.1 er.2.2.1 (ewS ec79 0 er.2.2.2)).2.2.1 = (eeN er.2.1 (Int.toNat wv) (ewS ec79 0 er.2.2.2)).2.2.1 := by rw [hk138]
            have hsw139 : gSW tyq119 cq119_0 (eeN er.2.1 er.2.2.1 (ewS ec79 0 er.2.2.2)) hq119 := by rw [hk138]; exact yq119_0
            have hok140 : eeOk (eeN er.2.1 er.2.2.1 (ewS ec79 0 er.2.2.2)) := by rw [hk138]; exact yq119_1
            have hoc141 := hok140.cur
            have hre := eeRk_e (sy := (ewS ec79)) (pl := eeN) (lw := lw) (p := p) (fr := fr) (tt := tt) (k := k) (cf := cf) (t := sg) (by omega) (by omega) (Int.le_antisymm (by omega) (by omega))
            rw [← her] at hre
            have hk142 : eeRz (ewS ec79) eeN lw cf p fr tt sg = eeN er.2.1 er.2.2.1 (ewS ec79 0 er.2.2.2) := hre.1 (by omega)
            have hk142_1 : (eeRz (ewS ec79) eeN lw cf p fr tt sg).1 = (eeN er.2.1 er.2.2.1 (ewS ec79 0 er.2.2.2)).1 := by rw [hk142]
            have hk142_21 : (eeRz (ewS ec79) eeN lw cf p fr tt sg).2.1 = (eeN er.2.1 er.2.2.1 (ewS ec79 0 er.2.2.2)).2.1 := by rw [hk142]
            have hk142_221 : (eeRz (ewS ec79) eeN lw cf p fr tt sg).2.2.1 = (eeN er.2.1 er.2.2.1 (ewS ec79 0 er.2.2.2)).2.2.1 := by rw [hk142]
            have hsw143 : gSW tyq119 cq119_0 (eeRz (ewS ec79) eeN lw cf p fr tt sg) hq119 := by rw [hk142]; exact hsw139
            have hok144 : eeOk (eeRz (ewS ec79) eeN lw cf p fr tt sg) := by rw [hk142]; exact hok140
            have hoc145 := hok144.cur
            have hl146 : 1024 ≤ hq119.2.2.2.1 bv ∧ hq119.2.2.2.1 bv ≤ 1000000 := gJ.rowl (G := gGG) sS137.1 t123 rfl
            have hl147 : 1024 ≤ hq119.2.2.2.1 cq99_0 ∧ hq119.2.2.2.1 cq99_0 ≤ 1000000 := gJ.rowl (G := gGG) sS137.1 t125 rfl
            have hl148 : 1024 ≤ hq119.2.2.2.1 cq119_0 ∧ hq119.2.2.2.1 cq119_0 ≤ 1000000 := gJ.rowl (G := gGG) sS137.1 tcq119_0 rfl
            have G149 : gSg [114] [] [56000, 56001, 56002, 56003, 71013, 71014, 114999] ty h tyq119 hq119 := gSg.ss G120 sS137 (by decide)
            exact gz_end (I := .return_) (len := 1) rfl (Or.inl rfl) ⟨tyq119, G149, cq119_0, trivial, fq119_0, fq119_1, fq119_2, ecq119_0, tcq119_0, rfl, efq119_0, (by omega), (by omega), efq119_1, (by omega), (by omega), efq119_2, (by omega), (by omega), (Int.le_antisymm (by omega) (by omega)), (Int.le_antisymm (by omega) (by omega)), (Int.le_antisymm (by omega) (by omega)), (by omega), (by omega), (by dsimp only; omega), (by dsimp only; omega), (by dsimp only; omega), (by dsimp only; omega), hsw143, hok144⟩
      · refine gy_icF rfl (by decide) (by decide) (by omega) (by omega) hc37 ?_
        refine gz_s 1 (pc' := 29) (L' := [some (.ref x), some (.int (zi p)), some (.int (zi zq1)), some (.int (zi rn)), some (.int (zi k)), none, none]) (S' := [.ref x]) rfl ?_
        refine gs_gtr rfl (by decide) rfl sh35.1 lp29c0 rfl rfl rfl (fun c150 ec150 tc150 => ?_)
        refine gy_s 3 (pc' := 36) (L' := [some (.ref x), some (.int (zi p)), some (.int (zi zq1)), some (.int (zi rn)), some (.int (zi k)), none, none]) (S' := [.int ((zi p) + (zi k)), .ref c150]) (L2 := [some (.ref x), some (.int (zi p)), some (.int (zi zq1)), some (.int (zi rn)), some (.int (zi k)), none, none]) (S2 := [.int (zi (p + k)), .ref c150]) rfl (by simp only [zi_add, zi_sub, zi_mul, zi_neg, zi_and1, zi_and7, zi_and15, zi_and31, zi_and255]) (by simp only [zi_add, zi_sub, zi_mul, zi_neg, zi_and1, zi_and7, zi_and15, zi_and31, zi_and255]) ?_
        have hl151 : 1024 ≤ h35.2.2.2.1 c150 ∧ h35.2.2.2.1 c150 ≤ 1024 := gJ.rowl (G := gGG) sh35.1 tc150 rfl
        refine gs_ald rfl (by decide) sh35.1 tc150 rfl rfl rfl (by decide) (fun _ => rfl) (by omega) (by omega) (fun z152 ez152 az152 bz152 => ?_)
        have hf153 := gRn.at (i := p + k) (z := z152) lp29k11 tc150 ez152 (by omega) (by omega) (by omega)
        have hcf : cf (p + k).toNat = z152 := hf153
        refine gz_s 2 (pc' := 41) (L' := [some (.ref x), some (.int (zi p)), some (.int (zi zq1)), some (.int (zi rn)), some (.int (zi k)), some (.int (zi z152)), none]) (S' := [.int (zi z152)]) rfl ?_
        refine gz_call rfl (by decide) rfl (by decide) (by decide) (gcal_of rfl rfl rfl (Nat.le_of_ble_eq_true rfl) rfl) (cl_Math_abs _ sh35.1 z152 ⟨by omega, by omega⟩ ) (fun q154 _ wq154 => ?_)
        obtain ⟨pq154, oq154, hq154⟩ := q154
        obtain ⟨xq154, zq154, gq154, aq154, bq154, uq154_0, uq154_1⟩ := wq154
        refine ⟨_, gq154, ?_⟩
        show gz gPP gGG gcn _ _ 44 [some (.ref x), some (.int (zi p)), some (.int (zi zq1)), some (.int (zi rn)), some (.int (zi k)), some (.int (zi z152)), none] [.int (zi zq154)] hq154 _
        have sq154 : gSs rT 1027 ty36 [56000, 56001, 56002, 56003, 71013, 71014, 114999] h35 hq154 := gSs.tr sh35 xq154 (by decide)
        have s155 := (xq154.2.2.2.2.2 x 0 (by rw [lp29c0]; decide)).trans lp29k0
        have s156 := (xq154.2.2.2.2.2 x 11 (by rw [lp29c0]; decide)).trans lp29k1
        have s157 := (xq154.2.2.2.2.2 x 7 (by rw [lp29c0]; decide)).trans lp29k2
        have s158 := (xq154.2.2.2.2.2 x 8 (by rw [lp29c0]; decide)).trans lp29k3
        have s159 := (xq154.2.2.2.2.2 x 10 (by rw [lp29c0]; decide)).trans lp29k4
        have s160 := (xq154.2.2.2.2.2 x 5 (by rw [lp29c0]; decide)).trans lp29k5
        have s161 := (xq154.2.2.2.2.2 sk 1 (by rw [lp29c1]; decide)).trans lp29k6
        have s162 := (xq154.2.2.2.2.2 sk 2 (by rw [lp29c1]; decide)).trans lp29k7
        have s163 := (xq154.2.2.2.2.2 sk 3 (by rw [lp29c1]; decide)).trans lp29k8
        have s164 := (xq154.2.2.2.2.2 x 14 (by rw [lp29c0]; decide)).trans lp29k9
        have s165 := (xq154.2.2.2.2.2 sk 0 (by rw [lp29c1]; decide)).trans lp29r0
        have s166 := (xq154.2.2.2.2.2 x 2 (by rw [lp29c0]; decide)).trans ec150
        have pr167 := gTab.fr xq154.2 (fun _ => rfl) (fun _ => rfl) (by decide) (by decide) lp29k10
        have pr168 := gRn.fr xq154.2 (by decide) lp29k11
        have pr169 := gSW.fr xq154.2 (by decide) lp29k12
        have pr170 := gJv.fr xq154.2 (by decide) lp29k14
        have hA : zq154 = eeA z152 := eeA_of (by omega) (by omega)
        refine gz_s 1 (pc' := 45) (L' := [some (.ref x), some (.int (zi p)), some (.int (zi zq1)), some (.int (zi rn)), some (.int (zi k)), some (.int (zi z152)), none]) (S' := [.ref x, .int (zi zq154)]) rfl ?_
        refine gs_gtk rfl (by decide) rfl sq154.1 lp29c0 rfl rfl s159 ?_
        refine gy_shr rfl (by decide) (by omega) (by omega) ?_
        have hx171 := zsh_b (a := zq154) (n := lw) (by omega)
        refine gz_s 2 (pc' := 53) (L' := [some (.ref x), some (.int (zi p)), some (.int (zi zq1)), some (.int (zi rn)), some (.int (zi k)), some (.int (zi z152)), some (.int (zi (zq154 / 2 ^ (lw).toNat)))]) (S' := [.int (zi (zq154 / 2 ^ (lw).toNat))]) rfl ?_
        by_cases hc172 : ¬ (zq154 / 2 ^ (lw).toNat : Int) = 0
        · refine gy_ifT (pc' := 62) rfl (by decide) (by decide) (by omega) hc172 ?_
          have hk174 : (eeWk (ewS ec79) eeN er rn rn).2.2.2 = er.2.2.2 := by rw [eeWk_0]
          have hk174_1 : ((eeWk (ewS ec79) eeN er rn rn).2.2.2).1 = (er.2.2.2).1 := by rw [hk174]
          have hk174_21 : ((eeWk (ewS ec79) eeN er rn rn).2.2.2).2.1 = (er.2.2.2).2.1 := by rw [hk174]
          have hk174_221 : ((eeWk (ewS ec79) eeN er rn rn).2.2.2).2.2.1 = (er.2.2.2).2.2.1 := by rw [hk174]
          have hsw175 : gSW ty36 bv ((eeWk (ewS ec79) eeN er rn rn).2.2.2) hq154 := by rw [hk174]; exact pr169
          have hok176 : eeOk ((eeWk (ewS ec79) eeN er rn rn).2.2.2) := by rw [hk174]; exact lp29k13
          have hoc177 := hok176.cur
          have hwq178 : gJv ty36 x (eeWk (ewS ec79) eeN er rn rn).2.1 (eeWk (ewS ec79) eeN er rn rn).2.2.1 hq154 := by rw [eeWk_0]; exact pr170
          have lp173 : ∀ (fu : Nat) (ty180 : Nat → Nat) (h179 : gH) (bv2 : Nat) (rn2 : Int) (cv2 : Int) (uv2 : Int) (hv2 : Int) (wv2 : Int), (rn2).toNat < fu → gSg [114] [] [56000, 56001, 56002, 56003, 71013, 71014, 114999] ty h ty180 h179 → gUq ty180 → ty180 x = 71 → ty180 sk = 56 → ty180 c150 = 73 → h179.2.2.2.2 sk 0 = .ref bv2 → ty180 bv2 = 114 → (0 ≤ rn2 ∧ rn2 ≤ 64) → (0 ≤ cv2 ∧ cv2 ≤ 499999) → (0 ≤ uv2 ∧ uv2 ≤ 127) → (0 ≤ hv2 ∧ hv2 ≤ 7) → (0 ≤ wv2 ∧ wv2 ≤ 64) → (rn2 ≤ rn) → ((rn - rn2) % 16 = 0) → (rn2 = rn ∨ k ≤ eeLk lw cf p fr tt) → (rn2 = (eeWk (ewS ec79) eeN er rn rn2).1) → (wv2 = (((eeWk (ewS ec79) eeN er rn rn2).2.2.1 : Nat) : Int)) → (wv2 ≤ wv) → (cv2 = ((eeWk (ewS ec79) eeN er rn rn2).2.2.2).1) → (uv2 = ((eeWk (ewS ec79) eeN er rn rn2).2.2.2).2.1) → (hv2 = ((eeWk (ewS ec79) eeN er rn rn2).2.2.2).2.2.1) → (4 * cv2 + hv2 + 320 * rn2 + 310 * wv2 ≤ 4 * c0 + h0 + 320 * (k - fr)) → (c0 ≤ cv2) → (1024 * ((h179.1 : Int) - h.1) ≤ (h179.2.2.2.1 bv2 : Int) - h.2.2.2.1 bt) → (((h179.2.1 : Int) - h.2.1) ≤ 2 * ((h179.2.2.2.1 bv2 : Int) - h.2.2.2.1 bt)) → ((h.2.2.2.1 bt : Int) ≤ (h179.2.2.2.1 bv2 : Int)) → (cv2 ≤ (h179.2.2.2.1 bv2 : Int)) → h179.2.2.2.2 x 0 = .ref sk → h179.2.2.2.2 x 11 = .int (zi cg) → h179.2.2.2.2 x 7 = .int (zi fr) → h179.2.2.2.2 x 8 = .int (zi tt) → h179.2.2.2.2 x 10 = .int (zi lw) → h179.2.2.2.2 x 5 = .int (zi bs) → h179.2.2.2.2 x 2 = .ref c150 → h179.2.2.2.2 sk 1 = .int (zi cv2) → h179.2.2.2.2 sk 2 = .int (zi uv2) → h179.2.2.2.2 sk 3 = .int (zi hv2) → h179.2.2.2.2 x 14 = .int (zi wv2) → gTab (True) ty180 78 79 ec79 h179 → gRn (64 * bs).toNat ty180 73 cf h179 → gSW ty180 bv2 ((eeWk (ewS ec79) eeN er rn rn2).2.2.2) h179 → eeOk ((eeWk (ewS ec79) eeN er rn rn2).2.2.2) → gJv ty180 x ((eeWk (ewS ec79) eeN er rn rn2).2.1) ((eeWk (ewS ec79) eeN er rn rn2).2.2.1) h179 → gz gPP gGG gcn (d + 5) gt117 62 [some (.ref x), some (.int (zi p)), some (.int (zi zq1)), some (.int (zi rn2)), some (.int (zi k)), some (.int (zi z152)), some (.int (zi (zq154 / 2 ^ (lw).toNat)))] [] h179 (fun q _ => ∃ ty9 : Nat → Nat, gSg [114] [] [56000, 56001, 56002, 56003, 71013, 71014, 114999] ty h ty9 q.2.2 ∧ ∃ bt2 : Nat, True ∧ ∃ c1 u1 h1 : Int, q.2.2.2.2.2.2 sk 0 = .ref bt2 ∧ ty9 bt2 = 114 ∧ gfin gt117 q.1 q.2.1 = some none ∧ q.2.2.2.2.2.2 sk 1 = .int (zi c1) ∧ 0 ≤ c1 ∧ c1 ≤ 500000 ∧ q.2.2.2.2.2.2 sk 2 = .int (zi u1) ∧ 0 ≤ u1 ∧ u1 ≤ 127 ∧ q.2.2.2.2.2.2 sk 3 = .int (zi h1) ∧ 0 ≤ h1 ∧ h1 ≤ 7 ∧ (c1 = (eeRz (ewS ec79) eeN lw cf p fr tt sg).1) ∧ (u1 = (eeRz (ewS ec79) eeN lw cf p fr tt sg).2.1) ∧ (h1 = (eeRz (ewS ec79) eeN lw cf p fr tt sg).2.2.1) ∧ (4 * c1 + h1 ≤ 4 * c0 + h0 + 320 * (tt - fr + 1)) ∧ (c0 ≤ c1) ∧ (1024 * ((q.2.2.1 : Int) - h.1) ≤ (q.2.2.2.2.2.1 bt2 : Int) - h.2.2.2.1 bt) ∧ (((q.2.2.2.1 : Int) - h.2.1) ≤ 2 * ((q.2.2.2.2.2.1 bt2 : Int) - h.2.2.2.1 bt)) ∧ ((h.2.2.2.1 bt : Int) ≤ (q.2.2.2.2.2.1 bt2 : Int)) ∧ (c1 ≤ (q.2.2.2.2.2.1 bt2 : Int)) ∧ (gSW ty9 bt2 (eeRz (ewS ec79) eeN lw cf p fr tt sg) q.2.2) ∧ (eeOk (eeRz (ewS ec79) eeN lw cf p fr tt sg))) := by
            intro fu
            induction fu with
            | zero => intro ty180 h179 bv2 rn2 cv2 uv2 hv2 wv2 hm; exact absurd hm (Nat.not_lt_zero _)
            | succ fu ihlp173 =>
              intro ty180 h179 bv2 rn2 cv2 uv2 hv2 wv2 lp173m lp173G lp173u lp173c0 lp173c1 lp173c2 lp173r0 lp173r1 lp173f0 lp173f1 lp173f2 lp173f3 lp173f4 lp173f5 lp173f6 lp173f7 lp173f8 lp173f9 lp173f10 lp173f11 lp173f12 lp173f13 lp173f14 lp173f15 lp173f16 lp173f17 lp173f18 lp173f19 lp173k0 lp173k1 lp173k2 lp173k3 lp173k4 lp173k5 lp173k6 lp173k7 lp173k8 lp173k9 lp173k10 lp173k11 lp173k12 lp173k13 lp173k14 lp173k15
              have sh179 : gSs rT 1027 ty180 [56000, 56001, 56002, 56003, 71013, 71014, 114999] h179 h179 := gSs.rf lp173G.1
              obtain ⟨ew, hew⟩ : ∃ x9 : Int × Int × Nat × gWt, x9 = eeWk (ewS ec79) eeN er rn rn2 := ⟨_, rfl⟩
              rw [← hew] at lp173f8 lp173f9 lp173f11 lp173f12 lp173f13 lp173k13 lp173k14 lp173k15
              refine gz_s 2 (pc' := 65) (L' := [some (.ref x), some (.int (zi p)), some (.int (zi zq1)), some (.int (zi rn2)), some (.int (zi k)), some (.int (zi z152)), some (.int (zi (zq154 / 2 ^ (lw).toNat)))]) (S' := [.int (zi 15), .int (zi rn2)]) rfl ?_
              by_cases hc181 : (rn2 : Int) ≤ 15
              · refine gy_icT (pc' := 92) rfl (by decide) (by decide) (by omega) (by omega) hc181 ?_
                refine gz_s 2 (pc' := 95) (L' := [some (.ref x), some (.int (zi p)), some (.int (zi zq1)), some (.int (zi rn2)), some (.int (zi k)), some (.int (zi z152)), some (.int (zi (zq154 / 2 ^ (lw).toNat)))]) (S' := [.int (zi 1), .int (zi (zq154 / 2 ^ (lw).toNat))]) rfl ?_
                by_cases hc182 : (zq154 / 2 ^ (lw).toNat : Int) ≤ 1
                · refine gy_icT (pc' := 129) rfl (by decide) (by decide) (by omega) (by omega) hc182 ?_
                  have h19 : zq154 / 2 ^ (lw).toNat = 1 := Int.le_antisymm (by omega) (by omega)
                  have hk9 : k ≤ eeLk lw cf p fr tt := eeLk_1 (by omega) (by omega) (by omega) (by omega) hcf (by rw [← hA]; exact h19)
                  have hm9 := (e_hmc (Iff.of_eq (congrArg (fun x9 : Int => k ≤ x9) hlk9)) lp173f7 lp173f6 (by omega))
                  have hz15 : rn2 ≤ 15 := hm9.elim (fun w => w.2.1) (fun w => absurd hk9 w.1)
                  have hs9 : (16 * rn2) + 1 = 16 * (rn2 % 16) + 1 := by rw [Int.emod_eq_of_lt (by omega) (by omega)]
                  have hRv : ∀ V9 : Int, (V9 = if z152 < 0 then 0 else 1) → eeRk (ewS ec79) eeN lw cf p fr tt sg (k + 1) = (0, ew.2.1, 0, eeN ew.2.1 ew.2.2.1 (eeN V9 (Int.toNat 1) ((ewS ec79) ((16 * rn2) + 1) ew.2.2.2))) := fun V9 e8 => eeRk_1v (k := k) (v := z152) (a := zq154 / 2 ^ (lw).toNat) (s := (16 * rn2) + 1) (V := V9) (x := rn) (y := rn2) her hew (by omega) (by omega) (by omega) hcf (by rw [hA]) h19 lp29f6 ⟨by omega, by omega⟩ hm9 lp173f8 hs9 e8
                  clear hm9 hs9 lp173f7
                  refine gy_s 7 (pc' := 137) (L' := [some (.ref x), some (.int (zi p)), some (.int (zi zq1)), some (.int (zi rn2)), some (.int (zi k)), some (.int (zi z152)), some (.int (zi (zq154 / 2 ^ (lw).toNat)))]) (S' := [.int (((zi 16) * (zi rn2)) + (zi 1)), .int (zi 1), .ref x]) (L2 := [some (.ref x), some (.int (zi p)), some (.int (zi zq1)), some (.int (zi rn2)), some (.int (zi k)), some (.int (zi z152)), some (.int (zi (zq154 / 2 ^ (lw).toNat)))]) (S2 := [.int (zi ((16 * rn2) + 1)), .int (zi 1), .ref x]) rfl (by simp only [zi_add, zi_sub, zi_mul, zi_neg, zi_and1, zi_and7, zi_and15, zi_and31, zi_and255]) (by simp only [zi_add, zi_sub, zi_mul, zi_neg, zi_and1, zi_and7, zi_and15, zi_and31, zi_and255]) ?_
                  have hl183 : h179.2.2.2.1 bv2 = h179.2.2.2.1 bv2 := congrFun sh179.2.2.2.2.1 bv2
                  refine gz_call rfl (by decide) rfl (by decide) (by decide) (gcal_of rfl rfl rfl (Nat.le_of_ble_eq_true rfl) (gJ.recv (G := gGG) sh179.1 lp173c0 rfl rfl)) (cw_putSymbol1 _ sh179.1 x lp173c0 1 ⟨by omega, by omega⟩ ((16 * rn2) + 1) ⟨by omega, by omega⟩ sk lp173k0 lp173c1 bv2 lp173r0 lp173r1 cv2 lp173k7 ⟨by omega, by omega⟩ uv2 lp173k8 ⟨by omega, by omega⟩ hv2 lp173k9 ⟨by omega, by omega⟩ cg lp173k1 ⟨by omega, by omega⟩ ew.2.2.2 ec79 (Int.le_antisymm (by omega) (by omega)) (Int.le_antisymm (by omega) (by omega)) (Int.le_antisymm (by omega) (by omega)) (by omega) (by omega) lp173u lp173k13 lp173k14 lp173k11) (fun q184 _ wq184 => ?_)
                  obtain ⟨pq184, oq184, hq184⟩ := q184
                  obtain ⟨tyq184, xq184, cq184_0, ttq184, fq184_0, fq184_1, fq184_2, ecq184_0, tcq184_0, gq184, efq184_0, afq184_0, bfq184_0, efq184_1, afq184_1, bfq184_1, efq184_2, afq184_2, bfq184_2, uq184_0, uq184_1, uq184_2, uq184_3, uq184_4, uq184_5, uq184_6, uq184_7, uq184_8, yq184_0, yq184_1⟩ := wq184
                  dsimp only at uq184_5 uq184_6 uq184_7 uq184_8
                  refine ⟨_, gq184, ?_⟩
                  show gz gPP gGG gcn _ _ 140 [some (.ref x), some (.int (zi p)), some (.int (zi zq1)), some (.int (zi rn2)), some (.int (zi k)), some (.int (zi z152)), some (.int (zi (zq154 / 2 ^ (lw).toNat)))] [] hq184 _
                  have G185 : gSg [114] [] [56000, 56001, 56002, 56003, 71013, 71014, 114999] ty h tyq184 hq184 := gSg.tr (gSg.ss lp173G sh179 (by decide)) xq184 (by decide) (by decide) (fun x hx => by cases hx)
                  have t186 : tyq184 x = 71 := gSg.typ xq184 sh179.1 lp173c0 rfl
                  have t187 : tyq184 sk = 56 := gSg.typ xq184 sh179.1 lp173c1 rfl
                  have t188 : tyq184 c150 = 73 := gSg.typ xq184 sh179.1 lp173c2 rfl
                  have t189 : tyq184 bv2 = 114 := gSg.typ xq184 sh179.1 lp173r1 rfl
                  have hl190 : hq184.2.2.2.1 bv2 = h179.2.2.2.1 bv2 := gSg.len xq184 sh179.1 lp173r1 rfl
                  have s191 := gSg.at xq184 sh179.1 lp173c0 rfl (by decide) lp173k0
                  have s192 := gSg.at xq184 sh179.1 lp173c0 rfl (by decide) lp173k1
                  have s193 := gSg.at xq184 sh179.1 lp173c0 rfl (by decide) lp173k2
                  have s194 := gSg.at xq184 sh179.1 lp173c0 rfl (by decide) lp173k3
                  have s195 := gSg.at xq184 sh179.1 lp173c0 rfl (by decide) lp173k4
                  have s196 := gSg.at xq184 sh179.1 lp173c0 rfl (by decide) lp173k5
                  have s197 := gSg.at xq184 sh179.1 lp173c0 rfl (by decide) lp173k6
                  have s198 := gSg.at xq184 sh179.1 lp173c0 rfl (by decide) lp173k10
                  have pr199 := gTab.gr xq184 sh179.1 rfl rfl (fun _ => rfl) (fun _ => rfl) (by decide) (by decide) (by decide) (by decide) lp173k11
                  have pr200 := gRn.gr xq184 sh179.1 rfl (by decide) (by decide) lp173k12
                  have pr201 := gJv.gr xq184 sh179.1 (by decide) lp173k15
                  have uq202 := gSg.uq xq184 lp173u (by decide)
                  have sS203 : gSs rT 1027 tyq184 [56000, 56001, 56002, 56003, 71013, 71014, 114999] hq184 hq184 := gSs.rf xq184.1
                  refine gz_s 2 (pc' := 143) (L' := [some (.ref x), some (.int (zi p)), some (.int (zi zq1)), some (.int (zi rn2)), some (.int (zi k)), some (.int (zi z152)), some (.int (zi (zq154 / 2 ^ (lw).toNat)))]) (S' := [.int (zi z152), .ref x]) rfl ?_
                  by_cases hc204 : (0 : Int) ≤ z152
                  · refine gy_ifT (pc' := 150) rfl (by decide) (by decide) (by omega) hc204 ?_
                    refine gz_s 2 (pc' := 152) (L' := [some (.ref x), some (.int (zi p)), some (.int (zi zq1)), some (.int (zi rn2)), some (.int (zi k)), some (.int (zi z152)), some (.int (zi (zq154 / 2 ^ (lw).toNat)))]) (S' := [.int (zi 1), .int (zi 1), .ref x]) rfl ?_
                    have hl205 : hq184.2.2.2.1 cq184_0 = hq184.2.2.2.1 cq184_0 := congrFun sS203.2.2.2.2.1 cq184_0
                    refine gz_call rfl (by decide) rfl (by decide) (by decide) (gcal_of rfl rfl rfl (Nat.le_of_ble_eq_true rfl) (gJ.recv (G := gGG) sS203.1 t186 rfl rfl)) (cw_putPlain _ sS203.1 x t186 1 ⟨by omega, by omega⟩ 1 ⟨by omega, by omega⟩ sk s191 t187 cq184_0 ecq184_0 tcq184_0 fq184_0 efq184_0 ⟨by omega, by omega⟩ fq184_1 efq184_1 ⟨by omega, by omega⟩ fq184_2 efq184_2 ⟨by omega, by omega⟩ cg s192 ⟨by omega, by omega⟩ (ewS ec79 ((16 * rn2) + 1) ew.2.2.2) (Int.le_antisymm (by omega) (by omega)) (Int.le_antisymm (by omega) (by omega)) (Int.le_antisymm (by omega) (by omega)) (by omega) (by omega) uq202 yq184_0 yq184_1) (fun q206 _ wq206 => ?_)
                    obtain ⟨pq206, oq206, hq206⟩ := q206
                    obtain ⟨tyq206, xq206, cq206_0, ttq206, fq206_0, fq206_1, fq206_2, ecq206_0, tcq206_0, gq206, efq206_0, afq206_0, bfq206_0, efq206_1, afq206_1, bfq206_1, efq206_2, afq206_2, bfq206_2, uq206_0, uq206_1, uq206_2, uq206_3, uq206_4, uq206_5, uq206_6, uq206_7, uq206_8, yq206_0, yq206_1⟩ := wq206
                    dsimp only at uq206_5 uq206_6 uq206_7 uq206_8
                    refine ⟨_, gq206, ?_⟩
                    show gz gPP gGG gcn _ _ 155 [some (.ref x), some (.int (zi p)), some (.int (zi zq1)), some (.int (zi rn2)), some (.int (zi k)), some (.int (zi z152)), some (.int (zi (zq154 / 2 ^ (lw).toNat)))] [] hq206 _
                    have G207 : gSg [114] [] [56000, 56001, 56002, 56003, 71013, 71014, 114999] ty h tyq206 hq206 := gSg.tr (gSg.ss G185 sS203 (by decide)) xq206 (by decide) (by decide) (fun x hx => by cases hx)
                    have t208 : tyq206 x = 71 := gSg.typ xq206 sS203.1 t186 rfl
                    have t209 : tyq206 sk = 56 := gSg.typ xq206 sS203.1 t187 rfl
                    have t210 : tyq206 c150 = 73 := gSg.typ xq206 sS203.1 t188 rfl
                    have t211 : tyq206 bv2 = 114 := gSg.typ xq206 sS203.1 t189 rfl
                    have hl212 : hq206.2.2.2.1 bv2 = hq184.2.2.2.1 bv2 := gSg.len xq206 sS203.1 t189 rfl
                    have t213 : tyq206 cq184_0 = 114 := gSg.typ xq206 sS203.1 tcq184_0 rfl
                    have hl214 : hq206.2.2.2.1 cq184_0 = hq184.2.2.2.1 cq184_0 := gSg.len xq206 sS203.1 tcq184_0 rfl
                    have s215 := gSg.at xq206 sS203.1 t186 rfl (by decide) s191
                    have s216 := gSg.at xq206 sS203.1 t186 rfl (by decide) s192
                    have s217 := gSg.at xq206 sS203.1 t186 rfl (by decide) s193
                    have s218 := gSg.at xq206 sS203.1 t186 rfl (by decide) s194
                    have s219 := gSg.at xq206 sS203.1 t186 rfl (by decide) s195
                    have s220 := gSg.at xq206 sS203.1 t186 rfl (by decide) s196
                    have s221 := gSg.at xq206 sS203.1 t186 rfl (by decide) s197
                    have s222 := gSg.at xq206 sS203.1 t186 rfl (by decide) s198
                    have pr223 := gTab.gr xq206 sS203.1 rfl rfl (fun _ => rfl) (fun _ => rfl) (by decide) (by decide) (by decide) (by decide) pr199
                    have pr224 := gRn.gr xq206 sS203.1 rfl (by decide) (by decide) pr200
                    have pr225 := gJv.gr xq206 sS203.1 (by decide) pr201
                    have uq226 := gSg.uq xq206 uq202 (by decide)
                    have sS227 : gSs rT 1027 tyq206 [56000, 56001, 56002, 56003, 71013, 71014, 114999] hq206 hq206 := gSs.rf xq206.1
                    have hwq228e : Int.toNat wv2 = ew.2.2.1 := (congrArg Int.toNat lp173f9).trans (Int.toNat_natCast _)
                    have hwq228 : gJv tyq206 x ew.2.1 (Int.toNat wv2) hq206 := by rw [hwq228e]; exact pr225
                    refine gz_s 1 (pc' := 156) (L' := [some (.ref x), some (.int (zi p)), some (.int (zi zq1)), some (.int (zi rn2)), some (.int (zi k)), some (.int (zi z152)), some (.int (zi (zq154 / 2 ^ (lw).toNat)))]) (S' := [.ref x]) rfl ?_
                    have hl229 : hq206.2.2.2.1 cq206_0 = hq206.2.2.2.1 cq206_0 := congrFun sS227.2.2.2.2.1 cq206_0
                    refine gz_call rfl (by decide) rfl (by decide) (by decide) (gcal_of rfl rfl rfl (Nat.le_of_ble_eq_true rfl) (gJ.recv (G := gGG) sS227.1 t208 rfl rfl)) (cw_putWaiting _ sS227.1 x t208 sk s215 t209 cq206_0 ecq206_0 tcq206_0 fq206_0 efq206_0 ⟨by omega, by omega⟩ fq206_1 efq206_1 ⟨by omega, by omega⟩ fq206_2 efq206_2 ⟨by omega, by omega⟩ cg s216 ⟨by omega, by omega⟩ wv2 s222 ⟨by omega, by omega⟩ (eeN 1 (Int.toNat 1) (ewS ec79 ((16 * rn2) + 1) ew.2.2.2)) ew.2.1 (Int.le_antisymm (by omega) (by omega)) (Int.le_antisymm (by omega) (by omega)) (Int.le_antisymm (by omega) (by omega)) (by omega) (by omega) uq226 yq206_0 yq206_1 hwq228) (fun q230 _ wq230 => ?_)
                    obtain ⟨pq230, oq230, hq230⟩ := q230
                    obtain ⟨tyq230, xq230, cq230_0, ttq230, fq230_0, fq230_1, fq230_2, fq230_3, ecq230_0, tcq230_0, gq230, efq230_0, afq230_0, bfq230_0, efq230_1, afq230_1, bfq230_1, efq230_2, afq230_2, bfq230_2, efq230_3, afq230_3, bfq230_3, uq230_0, uq230_1, uq230_2, uq230_3, uq230_4, uq230_5, uq230_6, uq230_7, uq230_8, uq230_9, yq230_0, yq230_1, yq230_2⟩ := wq230
                    dsimp only at uq230_5 uq230_6 uq230_7 uq230_9
                    refine ⟨_, gq230, ?_⟩
                    show gz gPP gGG gcn _ _ 159 [some (.ref x), some (.int (zi p)), some (.int (zi zq1)), some (.int (zi rn2)), some (.int (zi k)), some (.int (zi z152)), some (.int (zi (zq154 / 2 ^ (lw).toNat)))] [] hq230 _
                    have G231 : gSg [114] [] [56000, 56001, 56002, 56003, 71013, 71014, 114999] ty h tyq230 hq230 := gSg.tr (gSg.ss G207 sS227 (by decide)) xq230 (by decide) (by decide) (fun x hx => by cases hx)
                    have t232 : tyq230 x = 71 := gSg.typ xq230 sS227.1 t208 rfl
                    have t233 : tyq230 sk = 56 := gSg.typ xq230 sS227.1 t209 rfl
                    have t234 : tyq230 c150 = 73 := gSg.typ xq230 sS227.1 t210 rfl
                    have t235 : tyq230 bv2 = 114 := gSg.typ xq230 sS227.1 t211 rfl
                    have hl236 : hq230.2.2.2.1 bv2 = hq206.2.2.2.1 bv2 := gSg.len xq230 sS227.1 t211 rfl
                    have t237 : tyq230 cq184_0 = 114 := gSg.typ xq230 sS227.1 t213 rfl
                    have hl238 : hq230.2.2.2.1 cq184_0 = hq206.2.2.2.1 cq184_0 := gSg.len xq230 sS227.1 t213 rfl
                    have t239 : tyq230 cq206_0 = 114 := gSg.typ xq230 sS227.1 tcq206_0 rfl
                    have hl240 : hq230.2.2.2.1 cq206_0 = hq206.2.2.2.1 cq206_0 := gSg.len xq230 sS227.1 tcq206_0 rfl
                    have s241 := gSg.at xq230 sS227.1 t208 rfl (by decide) s215
                    have s242 := gSg.at xq230 sS227.1 t208 rfl (by decide) s216
                    have s243 := gSg.at xq230 sS227.1 t208 rfl (by decide) s217
                    have s244 := gSg.at xq230 sS227.1 t208 rfl (by decide) s218
                    have s245 := gSg.at xq230 sS227.1 t208 rfl (by decide) s219
                    have s246 := gSg.at xq230 sS227.1 t208 rfl (by decide) s220
                    have s247 := gSg.at xq230 sS227.1 t208 rfl (by decide) s221
                    have pr248 := gTab.gr xq230 sS227.1 rfl rfl (fun _ => rfl) (fun _ => rfl) (by decide) (by decide) (by decide) (by decide) pr223
                    have pr249 := gRn.gr xq230 sS227.1 rfl (by decide) (by decide) pr224
                    have pr250 := gJv.gr xq230 sS227.1 (by decide) hwq228
                    have uq251 := gSg.uq xq230 uq226 (by decide)
                    have sS252 : gSs rT 1027 tyq230 [56000, 56001, 56002, 56003, 71013, 71014, 114999] hq230 hq230 := gSs.rf xq230.1
                    have hk253 : eeN ew.2.1 ew.2.2.1 (eeN 1 (Int.toNat 1) (ewS ec79 ((16 * rn2) + 1) ew.2.2.2)) = eeN ew.2.1 (Int.toNat wv2) (eeN 1 (Int.toNat 1) (ewS ec79 ((16 * rn2) + 1) ew.2.2.2)) := by rw [hwq228e]
                    have hk253_1 : (eeN ew.2.1 ew.2.2.1 (eeN 1 (Int.toNat 1) (ewS ec79 ((16 * rn2) + 1) ew.2.2.2))).1 = (eeN ew.2.1 (Int.toNat wv2) (eeN 1 (Int.toNat 1) (ewS ec79 ((16 * rn2) + 1) ew.2.2.2))).1 := by rw [hk253]
                    have hk253_21 : (eeN ew.2.1 ew.2.2.1 (eeN 1 (Int.toNat 1) (ewS ec79 ((16 * rn2) + 1) ew.2.2.2))).2.1 = (eeN ew.2.1 (Int.toNat wv2) (eeN 1 (Int.toNat 1) (ewS ec79 ((16 * rn2) + 1) ew.2.2.2))).2.1 := by rw [hk253]
                    have hk253_221 : (eeN ew.2.1 ew.2.2.1 (eeN 1 (Int.toNat 1) (ewS ec79 ((16 * rn2) + 1) ew.2.2.2))).2.2.1 = (eeN ew.2.1 (Int.toNat wv2) (eeN 1 (Int.toNat 1) (ewS ec79 ((16 * rn2) + 1) ew.2.2.2))).2.2.1 := by rw [hk253]
                    have hsw254 : gSW tyq230 cq230_0 (eeN ew.2.1 ew.2.2.1 (eeN 1 (Int.toNat 1) (ewS ec79 ((16 * rn2) + 1) ew.2.2.2))) hq230 := by rw [hk253]; exact yq230_0
                    have hok255 : eeOk (eeN ew.2.1 ew.2.2.1 (eeN 1 (Int.toNat 1) (ewS ec79 ((16 * rn2) + 1) ew.2.2.2))) := by rw [hk253]; exact yq230_1
                    have hoc256 := hok255.cur
                    refine gz_s 2 (pc' := 161) (L' := [some (.ref x), some (.int (zi p)), some (.int (zi zq1)), some (.int (zi 0)), some (.int (zi k)), some (.int (zi z152)), some (.int (zi (zq154 / 2 ^ (lw).toNat)))]) (S' := []) rfl ?_
                    have hR : eeRk (ewS ec79) eeN lw cf p fr tt sg (k + 1) = (0, ew.2.1, 0, eeN ew.2.1 ew.2.2.1 (eeN 1 (Int.toNat 1) (ewS ec79 ((16 * rn2) + 1) ew.2.2.2))) := hRv 1 (if_neg (by omega : ¬ z152 < 0)).symm
                    have hR_1 : (eeRk (ewS ec79) eeN lw cf p fr tt sg (k + 1)).1 = 0 := by rw [hR]
                    have hR_21 : (eeRk (ewS ec79) eeN lw cf p fr tt sg (k + 1)).2.1 = ew.2.1 := by rw [hR]
                    have hR_221 : (eeRk (ewS ec79) eeN lw cf p fr tt sg (k + 1)).2.2.1 = 0 := by rw [hR]
                    have hk257 : (eeRk (ewS ec79) eeN lw cf p fr tt sg (k + 1)).2.2.2 = eeN ew.2.1 ew.2.2.1 (eeN 1 (Int.toNat 1) (ewS ec79 ((16 * rn2) + 1) ew.2.2.2)) := by rw [hR]
                    have hk257_1 : ((eeRk (ewS ec79) eeN lw cf p fr tt sg (k + 1)).2.2.2).1 = (eeN ew.2.1 ew.2.2.1 (eeN 1 (Int.toNat 1) (ewS ec79 ((16 * rn2) + 1) ew.2.2.2))).1 := by rw [hk257]
                    have hk257_21 : ((eeRk (ewS ec79) eeN lw cf p fr tt sg (k + 1)).2.2.2).2.1 = (eeN ew.2.1 ew.2.2.1 (eeN 1 (Int.toNat 1) (ewS ec79 ((16 * rn2) + 1) ew.2.2.2))).2.1 := by rw [hk257]
                    have hk257_221 : ((eeRk (ewS ec79) eeN lw cf p fr tt sg (k + 1)).2.2.2).2.2.1 = (eeN ew.2.1 ew.2.2.1 (eeN 1 (Int.toNat 1) (ewS ec79 ((16 * rn2) + 1) ew.2.2.2))).2.2.1 := by rw [hk257]
                    have hsw258 : gSW tyq230 cq230_0 ((eeRk (ewS ec79) eeN lw cf p fr tt sg (k + 1)).2.2.2) hq230 := by rw [hk257]; exact hsw254
                    have hok259 : eeOk ((eeRk (ewS ec79) eeN lw cf p fr tt sg (k + 1)).2.2.2) := by rw [hk257]; exact hok255
                    have hoc260 := hok259.cur
                    have hwq261 : gJv tyq230 x (eeRk (ewS ec79) eeN lw cf p fr tt sg (k + 1)).2.1 (eeRk (ewS ec79) eeN lw cf p fr tt sg (k + 1)).2.2.1 hq230 := by rw [hR]; exact yq230_2
                    refine gy_s 2 (pc' := 19) (L' := [some (.ref x), some (.int (zi p)), some (.int (zi zq1)), some (.int (zi 0)), some (.int ((zi k) + zi 1)), some (.int (zi z152)), some (.int (zi (zq154 / 2 ^ (lw).toNat)))]) (S' := []) (L2 := [some (.ref x), some (.int (zi p)), some (.int (zi zq1)), some (.int (zi 0)), some (.int (zi (k + 1))), some (.int (zi z152)), some (.int (zi (zq154 / 2 ^ (lw).toNat)))]) (S2 := []) rfl (by simp only [zi_add, zi_sub, zi_mul, zi_neg, zi_and1, zi_and7, zi_and15, zi_and31, zi_and255]) (by simp only [zi_add, zi_sub, zi_mul, zi_neg, zi_and1, zi_and7, zi_and15, zi_and31, zi_and255]) ?_
                    have hl262 : 1024 ≤ hq230.2.2.2.1 bv2 ∧ hq230.2.2.2.1 bv2 ≤ 1000000 := gJ.rowl (G := gGG) sS252.1 t235 rfl
                    have hl263 : 1024 ≤ hq230.2.2.2.1 cq184_0 ∧ hq230.2.2.2.1 cq184_0 ≤ 1000000 := gJ.rowl (G := gGG) sS252.1 t237 rfl
                    have hl264 : 1024 ≤ hq230.2.2.2.1 cq206_0 ∧ hq230.2.2.2.1 cq206_0 ≤ 1000000 := gJ.rowl (G := gGG) sS252.1 t239 rfl
                    have hl265 : 1024 ≤ hq230.2.2.2.1 cq230_0 ∧ hq230.2.2.2.1 cq230_0 ≤ 1000000 := gJ.rowl (G := gGG) sS252.1 tcq230_0 rfl
                    have G266 : gSg [114] [] [56000, 56001, 56002, 56003, 71013, 71014, 114999] ty h tyq230 hq230 := gSg.ss G231 sS252 (by decide)
                    exact gz_wk (ihlp29 tyq230 hq230 cq230_0 0 (k + 1) fq230_0 fq230_1 fq230_2 fq230_3 (gms lp29m (by omega) (by omega)) G266 uq251 t232 t233 ecq230_0 tcq230_0 ⟨by omega, by omega⟩ ⟨by omega, by omega⟩ ⟨by omega, by omega⟩ ⟨by omega, by omega⟩ ⟨by omega, by omega⟩ ⟨by omega, by omega⟩ (Int.le_antisymm (by omega) (by omega)) (Int.le_antisymm (by omega) (by omega)) (by omega) (by omega) (by omega) (Int.le_antisymm (by omega) (by omega)) (Int.le_antisymm (by omega) (by omega)) (Int.le_antisymm (by omega) (by omega)) (by omega) (by omega) (by omega) (by omega) (by omega) (by omega) s241 s242 s243 s244 s245 s246 efq230_0 efq230_1 efq230_2 efq230_3 pr248 pr249 hsw258 hok259 hwq261) (gLw.s (gLw.s (gLw.s (gLw.s (gLw.s (gLw.n (gLw.n gLw.z)))))))
                  · refine gy_ifF rfl (by decide) (by decide) (by omega) hc204 ?_
                    refine gz_s 3 (pc' := 152) (L' := [some (.ref x), some (.int (zi p)), some (.int (zi zq1)), some (.int (zi rn2)), some (.int (zi k)), some (.int (zi z152)), some (.int (zi (zq154 / 2 ^ (lw).toNat)))]) (S' := [.int (zi 1), .int (zi 0), .ref x]) rfl ?_
                    have hl267 : hq184.2.2.2.1 cq184_0 = hq184.2.2.2.1 cq184_0 := congrFun sS203.2.2.2.2.1 cq184_0
                    refine gz_call rfl (by decide) rfl (by decide) (by decide) (gcal_of rfl rfl rfl (Nat.le_of_ble_eq_true rfl) (gJ.recv (G := gGG) sS203.1 t186 rfl rfl)) (cw_putPlain _ sS203.1 x t186 0 ⟨by omega, by omega⟩ 1 ⟨by omega, by omega⟩ sk s191 t187 cq184_0 ecq184_0 tcq184_0 fq184_0 efq184_0 ⟨by omega, by omega⟩ fq184_1 efq184_1 ⟨by omega, by omega⟩ fq184_2 efq184_2 ⟨by omega, by omega⟩ cg s192 ⟨by omega, by omega⟩ (ewS ec79 ((16 * rn2) + 1) ew.2.2.2) (Int.le_antisymm (by omega) (by omega)) (Int.le_antisymm (by omega) (by omega)) (Int.le_antisymm (by omega) (by omega)) (by omega) (by omega) uq202 yq184_0 yq184_1) (fun q268 _ wq268 => ?_)
                    obtain ⟨pq268, oq268, hq268⟩ := q268
                    obtain ⟨tyq268, xq268, cq268_0, ttq268, fq268_0, fq268_1, fq268_2, ecq268_0, tcq268_0, gq268, efq268_0, afq268_0, bfq268_0, efq268_1, afq268_1, bfq268_1, efq268_2, afq268_2, bfq268_2, uq268_0, uq268_1, uq268_2, uq268_3, uq268_4, uq268_5, uq268_6, uq268_7, uq268_8, yq268_0, yq268_1⟩ := wq268
                    dsimp only at uq268_5 uq268_6 uq268_7 uq268_8
                    refine ⟨_, gq268, ?_⟩
                    show gz gPP gGG gcn _ _ 155 [some (.ref x), some (.int (zi p)), some (.int (zi zq1)), some (.int (zi rn2)), some (.int (zi k)), some (.int (zi z152)), some (.int (zi (zq154 / 2 ^ (lw).toNat)))] [] hq268 _
                    have G269 : gSg [114] [] [56000, 56001, 56002, 56003, 71013, 71014, 114999] ty h tyq268 hq268 := gSg.tr (gSg.ss G185 sS203 (by decide)) xq268 (by decide) (by decide) (fun x hx => by cases hx)
                    have t270 : tyq268 x = 71 := gSg.typ xq268 sS203.1 t186 rfl
                    have t271 : tyq268 sk = 56 := gSg.typ xq268 sS203.1 t187 rfl
                    have t272 : tyq268 c150 = 73 := gSg.typ xq268 sS203.1 t188 rfl
                    have t273 : tyq268 bv2 = 114 := gSg.typ xq268 sS203.1 t189 rfl
                    have hl274 : hq268.2.2.2.1 bv2 = hq184.2.2.2.1 bv2 := gSg.len xq268 sS203.1 t189 rfl
                    have t275 : tyq268 cq184_0 = 114 := gSg.typ xq268 sS203.1 tcq184_0 rfl
                    have hl276 : hq268.2.2.2.1 cq184_0 = hq184.2.2.2.1 cq184_0 := gSg.len xq268 sS203.1 tcq184_0 rfl
                    have s277 := gSg.at xq268 sS203.1 t186 rfl (by decide) s191
                    have s278 := gSg.at xq268 sS203.1 t186 rfl (by decide) s192
                    have s279 := gSg.at xq268 sS203.1 t186 rfl (by decide) s193
                    have s280 := gSg.at xq268 sS203.1 t186 rfl (by decide) s194
                    have s281 := gSg.at xq268 sS203.1 t186 rfl (by decide) s195
                    have s282 := gSg.at xq268 sS203.1 t186 rfl (by decide) s196
                    have s283 := gSg.at xq268 sS203.1 t186 rfl (by decide) s197
                    have s284 := gSg.at xq268 sS203.1 t186 rfl (by decide) s198
                    have pr285 := gTab.gr xq268 sS203.1 rfl rfl (fun _ => rfl) (fun _ => rfl) (by decide) (by decide) (by decide) (by decide) pr199
                    have pr286 := gRn.gr xq268 sS203.1 rfl (by decide) (by decide) pr200
                    have pr287 := gJv.gr xq268 sS203.1 (by decide) pr201
                    have uq288 := gSg.uq xq268 uq202 (by decide)
                    have sS289 : gSs rT 1027 tyq268 [56000, 56001, 56002, 56003, 71013, 71014, 114999] hq268 hq268 := gSs.rf xq268.1
                    have hwq290e : Int.toNat wv2 = ew.2.2.1 := (congrArg Int.toNat lp173f9).trans (Int.toNat_natCast _)
                    have hwq290 : gJv tyq268 x ew.2.1 (Int.toNat wv2) hq268 := by rw [hwq290e]; exact pr287
                    refine gz_s 1 (pc' := 156) (L' := [some (.ref x), some (.int (zi p)), some (.int (zi zq1)), some (.int (zi rn2)), some (.int (zi k)), some (.int (zi z152)), some (.int (zi (zq154 / 2 ^ (lw).toNat)))]) (S' := [.ref x]) rfl ?_
                    have hl291 : hq268.2.2.2.1 cq268_0 = hq268.2.2.2.1 cq268_0 := congrFun sS289.2.2.2.2.1 cq268_0
                    refine gz_call rfl (by decide) rfl (by decide) (by decide) (gcal_of rfl rfl rfl (Nat.le_of_ble_eq_true rfl) (gJ.recv (G := gGG) sS289.1 t270 rfl rfl)) (cw_putWaiting _ sS289.1 x t270 sk s277 t271 cq268_0 ecq268_0 tcq268_0 fq268_0 efq268_0 ⟨by omega, by omega⟩ fq268_1 efq268_1 ⟨by omega, by omega⟩ fq268_2 efq268_2 ⟨by omega, by omega⟩ cg s278 ⟨by omega, by omega⟩ wv2 s284 ⟨by omega, by omega⟩ (eeN 0 (Int.toNat 1) (ewS ec79 ((16 * rn2) + 1) ew.2.2.2)) ew.2.1 (Int.le_antisymm (by omega) (by omega)) (Int.le_antisymm (by omega) (by omega)) (Int.le_antisymm (by omega) (by omega)) (by omega) (by omega) uq288 yq268_0 yq268_1 hwq290) (fun q292 _ wq292 => ?_)
                    obtain ⟨pq292, oq292, hq292⟩ := q292
                    obtain ⟨tyq292, xq292, cq292_0, ttq292, fq292_0, fq292_1, fq292_2, fq292_3, ecq292_0, tcq292_0, gq292, efq292_0, afq292_0, bfq292_0, efq292_1, afq292_1, bfq292_1, efq292_2, afq292_2, bfq292_2, efq292_3, afq292_3, bfq292_3, uq292_0, uq292_1, uq292_2, uq292_3, uq292_4, uq292_5, uq292_6, uq292_7, uq292_8, uq292_9, yq292_0, yq292_1, yq292_2⟩ := wq292
                    dsimp only at uq292_5 uq292_6 uq292_7 uq292_9
                    refine ⟨_, gq292, ?_⟩
                    show gz gPP gGG gcn _ _ 159 [some (.ref x), some (.int (zi p)), some (.int (zi zq1)), some (.int (zi rn2)), some (.int (zi k)), some (.int (zi z152)), some (.int (zi (zq154 / 2 ^ (lw).toNat)))] [] hq292 _
                    have G293 : gSg [114] [] [56000, 56001, 56002, 56003, 71013, 71014, 114999] ty h tyq292 hq292 := gSg.tr (gSg.ss G269 sS289 (by decide)) xq292 (by decide) (by decide) (fun x hx => by cases hx)
                    have t294 : tyq292 x = 71 := gSg.typ xq292 sS289.1 t270 rfl
                    have t295 : tyq292 sk = 56 := gSg.typ xq292 sS289.1 t271 rfl
                    have t296 : tyq292 c150 = 73 := gSg.typ xq292 sS289.1 t272 rfl
                    have t297 : tyq292 bv2 = 114 := gSg.typ xq292 sS289.1 t273 rfl
                    have hl298 : hq292.2.2.2.1 bv2 = hq268.2.2.2.1 bv2 := gSg.len xq292 sS289.1 t273 rfl
                    have t299 : tyq292 cq184_0 = 114 := gSg.typ xq292 sS289.1 t275 rfl
                    have hl300 : hq292.2.2.2.1 cq184_0 = hq268.2.2.2.1 cq184_0 := gSg.len xq292 sS289.1 t275 rfl
                    have t301 : tyq292 cq268_0 = 114 := gSg.typ xq292 sS289.1 tcq268_0 rfl
                    have hl302 : hq292.2.2.2.1 cq268_0 = hq268.2.2.2.1 cq268_0 := gSg.len xq292 sS289.1 tcq268_0 rfl
                    have s303 := gSg.at xq292 sS289.1 t270 rfl (by decide) s277
                    have s304 := gSg.at xq292 sS289.1 t270 rfl (by decide) s278
                    have s305 := gSg.at xq292 sS289.1 t270 rfl (by decide) s279
                    have s306 := gSg.at xq292 sS289.1 t270 rfl (by decide) s280
                    have s307 := gSg.at xq292 sS289.1 t270 rfl (by decide) s281
                    have s308 := gSg.at xq292 sS289.1 t270 rfl (by decide) s282
                    have s309 := gSg.at xq292 sS289.1 t270 rfl (by decide) s283
                    have pr310 := gTab.gr xq292 sS289.1 rfl rfl (fun _ => rfl) (fun _ => rfl) (by decide) (by decide) (by decide) (by decide) pr285
                    have pr311 := gRn.gr xq292 sS289.1 rfl (by decide) (by decide) pr286
                    have pr312 := gJv.gr xq292 sS289.1 (by decide) hwq290
                    have uq313 := gSg.uq xq292 uq288 (by decide)
                    have sS314 : gSs rT 1027 tyq292 [56000, 56001, 56002, 56003, 71013, 71014, 114999] hq292 hq292 := gSs.rf xq292.1
                    have hk315 : eeN ew.2.1 ew.2.2.1 (eeN 0 (Int.toNat 1) (ewS ec79 ((16 * rn2) + 1) ew.2.2.2)) = eeN ew.2.1 (Int.toNat wv2) (eeN 0 (Int.toNat 1) (ewS ec79 ((16 * rn2) + 1) ew.2.2.2)) := by rw [hwq290e]
                    have hk315_1 : (eeN ew.2.1 ew.2.2.1 (eeN 0 (Int.toNat 1) (ewS ec79 ((16 * rn2) + 1) ew.2.2.2))).1 = (eeN ew.2.1 (Int.toNat wv2) (eeN 0 (Int.toNat 1) (ewS ec79 ((16 * rn2) + 1) ew.2.2.2))).1 := by rw [hk315]
                    have hk315_21 : (eeN ew.2.1 ew.2.2.1 (eeN 0 (Int.toNat 1) (ewS ec79 ((16 * rn2) + 1) ew.2.2.2))).2.1 = (eeN ew.2.1 (Int.toNat wv2) (eeN 0 (Int.toNat 1) (ewS ec79 ((16 * rn2) + 1) ew.2.2.2))).2.1 := by rw [hk315]
                    have hk315_221 : (eeN ew.2.1 ew.2.2.1 (eeN 0 (Int.toNat 1) (ewS ec79 ((16 * rn2) + 1) ew.2.2.2))).2.2.1 = (eeN ew.2.1 (Int.toNat wv2) (eeN 0 (Int.toNat 1) (ewS ec79 ((16 * rn2) + 1) ew.2.2.2))).2.2.1 := by rw [hk315]
                    have hsw316 : gSW tyq292 cq292_0 (eeN ew.2.1 ew.2.2.1 (eeN 0 (Int.toNat 1) (ewS ec79 ((16 * rn2) + 1) ew.2.2.2))) hq292 := by rw [hk315]; exact yq292_0
                    have hok317 : eeOk (eeN ew.2.1 ew.2.2.1 (eeN 0 (Int.toNat 1) (ewS ec79 ((16 * rn2) + 1) ew.2.2.2))) := by rw [hk315]; exact yq292_1
                    have hoc318 := hok317.cur
                    refine gz_s 2 (pc' := 161) (L' := [some (.ref x), some (.int (zi p)), some (.int (zi zq1)), some (.int (zi 0)), some (.int (zi k)), some (.int (zi z152)), some (.int (zi (zq154 / 2 ^ (lw).toNat)))]) (S' := []) rfl ?_
                    have hR : eeRk (ewS ec79) eeN lw cf p fr tt sg (k + 1) = (0, ew.2.1, 0, eeN ew.2.1 ew.2.2.1 (eeN 0 (Int.toNat 1) (ewS ec79 ((16 * rn2) + 1) ew.2.2.2))) := hRv 0 (if_pos (by omega : z152 < 0)).symm
                    have hR_1 : (eeRk (ewS ec79) eeN lw cf p fr tt sg (k + 1)).1 = 0 := by rw [hR]
                    have hR_21 : (eeRk (ewS ec79) eeN lw cf p fr tt sg (k + 1)).2.1 = ew.2.1 := by rw [hR]
                    have hR_221 : (eeRk (ewS ec79) eeN lw cf p fr tt sg (k + 1)).2.2.1 = 0 := by rw [hR]
                    have hk319 : (eeRk (ewS ec79) eeN lw cf p fr tt sg (k + 1)).2.2.2 = eeN ew.2.1 ew.2.2.1 (eeN 0 (Int.toNat 1) (ewS ec79 ((16 * rn2) + 1) ew.2.2.2)) := by rw [hR]
                    have hk319_1 : ((eeRk (ewS ec79) eeN lw cf p fr tt sg (k + 1)).2.2.2).1 = (eeN ew.2.1 ew.2.2.1 (eeN 0 (Int.toNat 1) (ewS ec79 ((16 * rn2) + 1) ew.2.2.2))).1 := by rw [hk319]
                    have hk319_21 : ((eeRk (ewS ec79) eeN lw cf p fr tt sg (k + 1)).2.2.2).2.1 = (eeN ew.2.1 ew.2.2.1 (eeN 0 (Int.toNat 1) (ewS ec79 ((16 * rn2) + 1) ew.2.2.2))).2.1 := by rw [hk319]
                    have hk319_221 : ((eeRk (ewS ec79) eeN lw cf p fr tt sg (k + 1)).2.2.2).2.2.1 = (eeN ew.2.1 ew.2.2.1 (eeN 0 (Int.toNat 1) (ewS ec79 ((16 * rn2) + 1) ew.2.2.2))).2.2.1 := by rw [hk319]
                    have hsw320 : gSW tyq292 cq292_0 ((eeRk (ewS ec79) eeN lw cf p fr tt sg (k + 1)).2.2.2) hq292 := by rw [hk319]; exact hsw316
                    have hok321 : eeOk ((eeRk (ewS ec79) eeN lw cf p fr tt sg (k + 1)).2.2.2) := by rw [hk319]; exact hok317
                    have hoc322 := hok321.cur
                    have hwq323 : gJv tyq292 x (eeRk (ewS ec79) eeN lw cf p fr tt sg (k + 1)).2.1 (eeRk (ewS ec79) eeN lw cf p fr tt sg (k + 1)).2.2.1 hq292 := by rw [hR]; exact yq292_2
                    refine gy_s 2 (pc' := 19) (L' := [some (.ref x), some (.int (zi p)), some (.int (zi zq1)), some (.int (zi 0)), some (.int ((zi k) + zi 1)), some (.int (zi z152)), some (.int (zi (zq154 / 2 ^ (lw).toNat)))]) (S' := []) (L2 := [some (.ref x), some (.int (zi p)), some (.int (zi zq1)), some (.int (zi 0)), some (.int (zi (k + 1))), some (.int (zi z152)), some (.int (zi (zq154 / 2 ^ (lw).toNat)))]) (S2 := []) rfl (by simp only [zi_add, zi_sub, zi_mul, zi_neg, zi_and1, zi_and7, zi_and15, zi_and31, zi_and255]) (by simp only [zi_add, zi_sub, zi_mul, zi_neg, zi_and1, zi_and7, zi_and15, zi_and31, zi_and255]) ?_
                    have hl324 : 1024 ≤ hq292.2.2.2.1 bv2 ∧ hq292.2.2.2.1 bv2 ≤ 1000000 := gJ.rowl (G := gGG) sS314.1 t297 rfl
                    have hl325 : 1024 ≤ hq292.2.2.2.1 cq184_0 ∧ hq292.2.2.2.1 cq184_0 ≤ 1000000 := gJ.rowl (G := gGG) sS314.1 t299 rfl
                    have hl326 : 1024 ≤ hq292.2.2.2.1 cq268_0 ∧ hq292.2.2.2.1 cq268_0 ≤ 1000000 := gJ.rowl (G := gGG) sS314.1 t301 rfl
                    have hl327 : 1024 ≤ hq292.2.2.2.1 cq292_0 ∧ hq292.2.2.2.1 cq292_0 ≤ 1000000 := gJ.rowl (G := gGG) sS314.1 tcq292_0 rfl
                    have G328 : gSg [114] [] [56000, 56001, 56002, 56003, 71013, 71014, 114999] ty h tyq292 hq292 := gSg.ss G293 sS314 (by decide)
                    exact gz_wk (ihlp29 tyq292 hq292 cq292_0 0 (k + 1) fq292_0 fq292_1 fq292_2 fq292_3 (gms lp29m (by omega) (by omega)) G328 uq313 t294 t295 ecq292_0 tcq292_0 ⟨by omega, by omega⟩ ⟨by omega, by omega⟩ ⟨by omega, by omega⟩ ⟨by omega, by omega⟩ ⟨by omega, by omega⟩ ⟨by omega, by omega⟩ (Int.le_antisymm (by omega) (by omega)) (Int.le_antisymm (by omega) (by omega)) (by omega) (by omega) (by omega) (Int.le_antisymm (by omega) (by omega)) (Int.le_antisymm (by omega) (by omega)) (Int.le_antisymm (by omega) (by omega)) (by omega) (by omega) (by omega) (by omega) (by omega) (by omega) s303 s304 s305 s306 s307 s308 efq292_0 efq292_1 efq292_2 efq292_3 pr310 pr311 hsw320 hok321 hwq323) (gLw.s (gLw.s (gLw.s (gLw.s (gLw.s (gLw.n (gLw.n gLw.z)))))))
                · refine gy_icF rfl (by decide) (by decide) (by omega) (by omega) hc182 ?_
                  refine gz_s 1 (pc' := 99) (L' := [some (.ref x), some (.int (zi p)), some (.int (zi zq1)), some (.int (zi rn2)), some (.int (zi k)), some (.int (zi z152)), some (.int (zi (zq154 / 2 ^ (lw).toNat)))]) (S' := [.ref x]) rfl ?_
                  refine gz_1 rfl (by decide) rfl rfl (pc' := 102) (S' := [.long (zl 2), .ref x]) (h' := h179) rfl ?_
                  refine gz_s 1 (pc' := 103) (L' := [some (.ref x), some (.int (zi p)), some (.int (zi zq1)), some (.int (zi rn2)), some (.int (zi k)), some (.int (zi z152)), some (.int (zi (zq154 / 2 ^ (lw).toNat)))]) (S' := [.ref x, .long (zl 2), .ref x]) rfl ?_
                  refine gs_getl rfl (by decide) rfl sh179.1 lp173c0 rfl rfl rfl (fun z329 ez329 az329 bz329 => ?_)
                  refine gy_s 1 (pc' := 107) (L' := [some (.ref x), some (.int (zi p)), some (.int (zi zq1)), some (.int (zi rn2)), some (.int (zi k)), some (.int (zi z152)), some (.int (zi (zq154 / 2 ^ (lw).toNat)))]) (S' := [.long ((zl 2) * (zl z329)), .ref x]) (L2 := [some (.ref x), some (.int (zi p)), some (.int (zi zq1)), some (.int (zi rn2)), some (.int (zi k)), some (.int (zi z152)), some (.int (zi (zq154 / 2 ^ (lw).toNat)))]) (S2 := [.long (zl (2 * z329)), .ref x]) rfl (by simp only [zi_add, zi_sub, zi_mul, zi_neg, zi_and1, zi_and7, zi_and15, zi_and31, zi_and255, zl_add, zl_sub, zl_mul, zl_neg]) (by simp only [zi_add, zi_sub, zi_mul, zi_neg, zi_and1, zi_and7, zi_and15, zi_and31, zi_and255, zl_add, zl_sub, zl_mul, zl_neg]) ?_
                  refine gy_lany (fun z330 ez330 az330 bz330 => ?_)
                  refine gy_s 3 (pc' := 111) (L' := [some (.ref x), some (.int (zi p)), some (.int (zi zq1)), some (.int (zi rn2)), some (.int (zi k)), some (.int (zi z152)), some (.int (zi (zq154 / 2 ^ (lw).toNat)))]) (S' := [.int ((zi (zq154 / 2 ^ (lw).toNat)) &&& (zi 1)), .long (zl z330), .ref x]) (L2 := [some (.ref x), some (.int (zi p)), some (.int (zi zq1)), some (.int (zi rn2)), some (.int (zi k)), some (.int (zi z152)), some (.int (zi (zq154 / 2 ^ (lw).toNat)))]) (S2 := [.int (zi ((zq154 / 2 ^ (lw).toNat) % 2)), .long (zl z330), .ref x]) rfl (by simp only [zi_add, zi_sub, zi_mul, zi_neg, zi_and1, zi_and7, zi_and15, zi_and31, zi_and255, zl_add, zl_sub, zl_mul, zl_neg]) (by simp only [zi_add, zi_sub, zi_mul, zi_neg, zi_and1, zi_and7, zi_and15, zi_and31, zi_and255, zl_add, zl_sub, zl_mul, zl_neg]) ?_
                  refine gy_i2l rfl (by decide) ⟨by omega, by omega⟩ ?_
                  refine gy_s 1 (pc' := 113) (L' := [some (.ref x), some (.int (zi p)), some (.int (zi zq1)), some (.int (zi rn2)), some (.int (zi k)), some (.int (zi z152)), some (.int (zi (zq154 / 2 ^ (lw).toNat)))]) (S' := [.long ((zl z330) + (zl ((zq154 / 2 ^ (lw).toNat) % 2))), .ref x]) (L2 := [some (.ref x), some (.int (zi p)), some (.int (zi zq1)), some (.int (zi rn2)), some (.int (zi k)), some (.int (zi z152)), some (.int (zi (zq154 / 2 ^ (lw).toNat)))]) (S2 := [.long (zl (z330 + ((zq154 / 2 ^ (lw).toNat) % 2))), .ref x]) rfl (by simp only [zi_add, zi_sub, zi_mul, zi_neg, zi_and1, zi_and7, zi_and15, zi_and31, zi_and255, zl_add, zl_sub, zl_mul, zl_neg]) (by simp only [zi_add, zi_sub, zi_mul, zi_neg, zi_and1, zi_and7, zi_and15, zi_and31, zi_and255, zl_add, zl_sub, zl_mul, zl_neg]) ?_
                  refine gy_lany (fun z331 ez331 az331 bz331 => ?_)
                  refine gs_putl rfl (by decide) rfl sh179 lp173c0 rfl rfl rfl rfl (Or.inl rfl) (by decide) (by omega) (by omega) (fun h332 sh332 eh332 fh332 => ?_)
                  have pr333 := gTab.pt fh332 lp173c0 (by decide) (by decide) lp173k11
                  have pr334 := gRn.pt fh332 lp173c0 (by decide) lp173k12
                  have pr335 := gSW.pt fh332 lp173c0 (by decide) lp173k13
                  have s336 := (fh332 x 0 (fun q => absurd q.2 (by decide))).trans lp173k0
                  have s337 := (fh332 x 11 (fun q => absurd q.2 (by decide))).trans lp173k1
                  have s338 := (fh332 x 7 (fun q => absurd q.2 (by decide))).trans lp173k2
                  have s339 := (fh332 x 8 (fun q => absurd q.2 (by decide))).trans lp173k3
                  have s340 := (fh332 x 10 (fun q => absurd q.2 (by decide))).trans lp173k4
                  have s341 := (fh332 x 5 (fun q => absurd q.2 (by decide))).trans lp173k5
                  have s342 := (fh332 x 2 (fun q => absurd q.2 (by decide))).trans lp173k6
                  have s343 := (fh332 sk 1 (fun q => absurd q.2 (by decide))).trans lp173k7
                  have s344 := (fh332 sk 2 (fun q => absurd q.2 (by decide))).trans lp173k8
                  have s345 := (fh332 sk 3 (fun q => absurd q.2 (by decide))).trans lp173k9
                  have s346 := (fh332 x 14 (fun q => absurd q.2 (by decide))).trans lp173k10
                  have s347 := (fh332 sk 0 (fun q => absurd q.2 (by decide))).trans lp173r0
                  have hwq348 : gJv ty180 x (2 * ew.2.1 + (zq154 / 2 ^ (lw).toNat) % 2) (ew.2.2.1 + 1) h332 := gJv.put (b := (zq154 / 2 ^ (lw).toNat) % 2) lp173k15 (by omega) ez329 ez331 eh332
                  refine gz_s 2 (pc' := 118) (L' := [some (.ref x), some (.int (zi p)), some (.int (zi zq1)), some (.int (zi rn2)), some (.int (zi k)), some (.int (zi z152)), some (.int (zi (zq154 / 2 ^ (lw).toNat)))]) (S' := [.ref x, .ref x]) rfl ?_
                  refine gs_gtk rfl (by decide) rfl sh332.1 lp173c0 rfl rfl s346 ?_
                  refine gy_s 2 (pc' := 123) (L' := [some (.ref x), some (.int (zi p)), some (.int (zi zq1)), some (.int (zi rn2)), some (.int (zi k)), some (.int (zi z152)), some (.int (zi (zq154 / 2 ^ (lw).toNat)))]) (S' := [.int ((zi wv2) + (zi 1)), .ref x]) (L2 := [some (.ref x), some (.int (zi p)), some (.int (zi zq1)), some (.int (zi rn2)), some (.int (zi k)), some (.int (zi z152)), some (.int (zi (zq154 / 2 ^ (lw).toNat)))]) (S2 := [.int (zi (wv2 + 1)), .ref x]) rfl (by simp only [zi_add, zi_sub, zi_mul, zi_neg, zi_and1, zi_and7, zi_and15, zi_and31, zi_and255]) (by simp only [zi_add, zi_sub, zi_mul, zi_neg, zi_and1, zi_and7, zi_and15, zi_and31, zi_and255]) ?_
                  refine gs_put rfl (by decide) rfl sh332 lp173c0 rfl rfl rfl rfl (Or.inl rfl) (by decide) (by omega) (by omega) (fun h349 sh349 eh349 fh349 => ?_)
                  have pr350 := gTab.pt fh349 lp173c0 (by decide) (by decide) pr333
                  have pr351 := gRn.pt fh349 lp173c0 (by decide) pr334
                  have pr352 := gSW.pt fh349 lp173c0 (by decide) pr335
                  have pr353 := gJv.pk fh349 (sh349.2.2.2.2.1.trans sh332.2.2.2.2.1.symm) lp173c0 (by decide) hwq348
                  have s354 := (fh349 x 0 (fun q => absurd q.2 (by decide))).trans s336
                  have s355 := (fh349 x 11 (fun q => absurd q.2 (by decide))).trans s337
                  have s356 := (fh349 x 7 (fun q => absurd q.2 (by decide))).trans s338
                  have s357 := (fh349 x 8 (fun q => absurd q.2 (by decide))).trans s339
                  have s358 := (fh349 x 10 (fun q => absurd q.2 (by decide))).trans s340
                  have s359 := (fh349 x 5 (fun q => absurd q.2 (by decide))).trans s341
                  have s360 := (fh349 x 2 (fun q => absurd q.2 (by decide))).trans s342
                  have s361 := (fh349 sk 1 (fun q => absurd q.2 (by decide))).trans s343
                  have s362 := (fh349 sk 2 (fun q => absurd q.2 (by decide))).trans s344
                  have s363 := (fh349 sk 3 (fun q => absurd q.2 (by decide))).trans s345
                  have s364 := (fh349 sk 0 (fun q => absurd q.2 (by decide))).trans s347
                  have s365 := (fh349 x 13 (fun q => absurd q.2 (by decide))).trans eh332
                  refine gz_s 1 (pc' := 161) (L' := [some (.ref x), some (.int (zi p)), some (.int (zi zq1)), some (.int (zi rn2)), some (.int (zi k)), some (.int (zi z152)), some (.int (zi (zq154 / 2 ^ (lw).toNat)))]) (S' := []) rfl ?_
                  have hR : eeRk (ewS ec79) eeN lw cf p fr tt sg (k + 1) = (ew.1, 2 * ew.2.1 + (zq154 / 2 ^ (lw).toNat) % 2, ew.2.2.1 + 1, ew.2.2.2) := by rw [eeRk_m (a := zq154 / 2 ^ (lw).toNat) (x := rn) (y := rn2) (by omega) (by omega) (by omega) hcf (by rw [hA]) (by omega) (by rw [← her]; exact lp29f6) ⟨by omega, by omega⟩ (e_hmc (Iff.of_eq (congrArg (fun x9 : Int => k ≤ x9) hlk9)) lp173f7 lp173f6 (by omega)), ← her, ← hew]
                  have hR_1 : (eeRk (ewS ec79) eeN lw cf p fr tt sg (k + 1)).1 = ew.1 := by rw [hR]
                  have hR_21 : (eeRk (ewS ec79) eeN lw cf p fr tt sg (k + 1)).2.1 = 2 * ew.2.1 + (zq154 / 2 ^ (lw).toNat) % 2 := by rw [hR]
                  have hR_221 : (eeRk (ewS ec79) eeN lw cf p fr tt sg (k + 1)).2.2.1 = ew.2.2.1 + 1 := by rw [hR]
                  have hk366 : (eeRk (ewS ec79) eeN lw cf p fr tt sg (k + 1)).2.2.2 = ew.2.2.2 := by rw [hR]
                  have hk366_1 : ((eeRk (ewS ec79) eeN lw cf p fr tt sg (k + 1)).2.2.2).1 = (ew.2.2.2).1 := by rw [hk366]
                  have hk366_21 : ((eeRk (ewS ec79) eeN lw cf p fr tt sg (k + 1)).2.2.2).2.1 = (ew.2.2.2).2.1 := by rw [hk366]
                  have hk366_221 : ((eeRk (ewS ec79) eeN lw cf p fr tt sg (k + 1)).2.2.2).2.2.1 = (ew.2.2.2).2.2.1 := by rw [hk366]
                  have hsw367 : gSW ty180 bv2 ((eeRk (ewS ec79) eeN lw cf p fr tt sg (k + 1)).2.2.2) h349 := by rw [hk366]; exact pr352
                  have hok368 : eeOk ((eeRk (ewS ec79) eeN lw cf p fr tt sg (k + 1)).2.2.2) := by rw [hk366]; exact lp173k14
                  have hoc369 := hok368.cur
                  have hwq370 : gJv ty180 x (eeRk (ewS ec79) eeN lw cf p fr tt sg (k + 1)).2.1 (eeRk (ewS ec79) eeN lw cf p fr tt sg (k + 1)).2.2.1 h349 := by rw [hR]; exact pr353
                  refine gy_s 2 (pc' := 19) (L' := [some (.ref x), some (.int (zi p)), some (.int (zi zq1)), some (.int (zi rn2)), some (.int ((zi k) + zi 1)), some (.int (zi z152)), some (.int (zi (zq154 / 2 ^ (lw).toNat)))]) (S' := []) (L2 := [some (.ref x), some (.int (zi p)), some (.int (zi zq1)), some (.int (zi rn2)), some (.int (zi (k + 1))), some (.int (zi z152)), some (.int (zi (zq154 / 2 ^ (lw).toNat)))]) (S2 := []) rfl (by simp only [zi_add, zi_sub, zi_mul, zi_neg, zi_and1, zi_and7, zi_and15, zi_and31, zi_and255]) (by simp only [zi_add, zi_sub, zi_mul, zi_neg, zi_and1, zi_and7, zi_and15, zi_and31, zi_and255]) ?_
                  have k371 := sh349.2.1
                  have k371b := sh349.2.2.1
                  have hl372 : h349.2.2.2.1 bv2 = h179.2.2.2.1 bv2 := congrFun sh349.2.2.2.2.1 bv2
                  have hl373 : 1024 ≤ h349.2.2.2.1 bv2 ∧ h349.2.2.2.1 bv2 ≤ 1000000 := gJ.rowl (G := gGG) sh349.1 lp173r1 rfl
                  have G374 : gSg [114] [] [56000, 56001, 56002, 56003, 71013, 71014, 114999] ty h ty180 h349 := gSg.ss lp173G sh349 (by decide)
                  exact gz_wk (ihlp29 ty180 h349 bv2 rn2 (k + 1) cv2 uv2 hv2 (wv2 + 1) (gms lp29m (by omega) (by omega)) G374 lp173u lp173c0 lp173c1 s364 lp173r1 ⟨by omega, by omega⟩ ⟨by omega, by omega⟩ ⟨by omega, by omega⟩ ⟨by omega, by omega⟩ ⟨by omega, by omega⟩ ⟨by omega, by omega⟩ (Int.le_antisymm (by omega) (by omega)) (Int.le_antisymm (by omega) (by omega)) (by omega) (by omega) (by omega) (Int.le_antisymm (by omega) (by omega)) (Int.le_antisymm (by omega) (by omega)) (Int.le_antisymm (by omega) (by omega)) (by omega) (by omega) (by omega) (by omega) (by omega) (by omega) s354 s355 s356 s357 s358 s359 s361 s362 s363 eh349 pr350 pr351 hsw367 hok368 hwq370) (gLw.s (gLw.s (gLw.s (gLw.s (gLw.s (gLw.n (gLw.n gLw.z)))))))
              · refine gy_icF rfl (by decide) (by decide) (by omega) (by omega) hc181 ?_
                refine gz_s 2 (pc' := 71) (L' := [some (.ref x), some (.int (zi p)), some (.int (zi zq1)), some (.int (zi rn2)), some (.int (zi k)), some (.int (zi z152)), some (.int (zi (zq154 / 2 ^ (lw).toNat)))]) (S' := [.int (zi zq1), .int (zi k)]) rfl ?_
                by_cases hc375 : (zq1 : Int) < k
                · refine gy_icT (pc' := 92) rfl (by decide) (by decide) (by omega) (by omega) hc375 ?_
                  refine gz_s 2 (pc' := 95) (L' := [some (.ref x), some (.int (zi p)), some (.int (zi zq1)), some (.int (zi rn2)), some (.int (zi k)), some (.int (zi z152)), some (.int (zi (zq154 / 2 ^ (lw).toNat)))]) (S' := [.int (zi 1), .int (zi (zq154 / 2 ^ (lw).toNat))]) rfl ?_
                  by_cases hc376 : (zq154 / 2 ^ (lw).toNat : Int) ≤ 1
                  · refine gy_icT (pc' := 129) rfl (by decide) (by decide) (by omega) (by omega) hc376 ?_
                    have h19 : zq154 / 2 ^ (lw).toNat = 1 := Int.le_antisymm (by omega) (by omega)
                    have hk9 : k ≤ eeLk lw cf p fr tt := eeLk_1 (by omega) (by omega) (by omega) (by omega) hcf (by rw [← hA]; exact h19)
                    have hm9 := (e_hmc (Iff.of_eq (congrArg (fun x9 : Int => k ≤ x9) hlk9)) lp173f7 lp173f6 (by omega))
                    have hz15 : rn2 ≤ 15 := hm9.elim (fun w => w.2.1) (fun w => absurd hk9 w.1)
                    have hs9 : (16 * rn2) + 1 = 16 * (rn2 % 16) + 1 := by rw [Int.emod_eq_of_lt (by omega) (by omega)]
                    have hRv : ∀ V9 : Int, (V9 = if z152 < 0 then 0 else 1) → eeRk (ewS ec79) eeN lw cf p fr tt sg (k + 1) = (0, ew.2.1, 0, eeN ew.2.1 ew.2.2.1 (eeN V9 (Int.toNat 1) ((ewS ec79) ((16 * rn2) + 1) ew.2.2.2))) := fun V9 e8 => eeRk_1v (k := k) (v := z152) (a := zq154 / 2 ^ (lw).toNat) (s := (16 * rn2) + 1) (V := V9) (x := rn) (y := rn2) her hew (by omega) (by omega) (by omega) hcf (by rw [hA]) h19 lp29f6 ⟨by omega, by omega⟩ hm9 lp173f8 hs9 e8
                    clear hm9 hs9 lp173f7
                    refine gy_s 7 (pc' := 137) (L' := [some (.ref x), some (.int (zi p)), some (.int (zi zq1)), some (.int (zi rn2)), some (.int (zi k)), some (.int (zi z152)), some (.int (zi (zq154 / 2 ^ (lw).toNat)))]) (S' := [.int (((zi 16) * (zi rn2)) + (zi 1)), .int (zi 1), .ref x]) (L2 := [some (.ref x), some (.int (zi p)), some (.int (zi zq1)), some (.int (zi rn2)), some (.int (zi k)), some (.int (zi z152)), some (.int (zi (zq154 / 2 ^ (lw).toNat)))]) (S2 := [.int (zi ((16 * rn2) + 1)), .int (zi 1), .ref x]) rfl (by simp only [zi_add, zi_sub, zi_mul, zi_neg, zi_and1, zi_and7, zi_and15, zi_and31, zi_and255]) (by simp only [zi_add, zi_sub, zi_mul, zi_neg, zi_and1, zi_and7, zi_and15, zi_and31, zi_and255]) ?_
                    have hl377 : h179.2.2.2.1 bv2 = h179.2.2.2.1 bv2 := congrFun sh179.2.2.2.2.1 bv2
                    refine gz_call rfl (by decide) rfl (by decide) (by decide) (gcal_of rfl rfl rfl (Nat.le_of_ble_eq_true rfl) (gJ.recv (G := gGG) sh179.1 lp173c0 rfl rfl)) (cw_putSymbol1 _ sh179.1 x lp173c0 1 ⟨by omega, by omega⟩ ((16 * rn2) + 1) ⟨by omega, by omega⟩ sk lp173k0 lp173c1 bv2 lp173r0 lp173r1 cv2 lp173k7 ⟨by omega, by omega⟩ uv2 lp173k8 ⟨by omega, by omega⟩ hv2 lp173k9 ⟨by omega, by omega⟩ cg lp173k1 ⟨by omega, by omega⟩ ew.2.2.2 ec79 (Int.le_antisymm (by omega) (by omega)) (Int.le_antisymm (by omega) (by omega)) (Int.le_antisymm (by omega) (by omega)) (by omega) (by omega) lp173u lp173k13 lp173k14 lp173k11) (fun q378 _ wq378 => ?_)
                    obtain ⟨pq378, oq378, hq378⟩ := q378
                    obtain ⟨tyq378, xq378, cq378_0, ttq378, fq378_0, fq378_1, fq378_2, ecq378_0, tcq378_0, gq378, efq378_0, afq378_0, bfq378_0, efq378_1, afq378_1, bfq378_1, efq378_2, afq378_2, bfq378_2, uq378_0, uq378_1, uq378_2, uq378_3, uq378_4, uq378_5, uq378_6, uq378_7, uq378_8, yq378_0, yq378_1⟩ := wq378
                    dsimp only at uq378_5 uq378_6 uq378_7 uq378_8
                    refine ⟨_, gq378, ?_⟩
                    show gz gPP gGG gcn _ _ 140 [some (.ref x), some (.int (zi p)), some (.int (zi zq1)), some (.int (zi rn2)), some (.int (zi k)), some (.int (zi z152)), some (.int (zi (zq154 / 2 ^ (lw).toNat)))] [] hq378 _
                    have G379 : gSg [114] [] [56000, 56001, 56002, 56003, 71013, 71014, 114999] ty h tyq378 hq378 := gSg.tr (gSg.ss lp173G sh179 (by decide)) xq378 (by decide) (by decide) (fun x hx => by cases hx)
                    have t380 : tyq378 x = 71 := gSg.typ xq378 sh179.1 lp173c0 rfl
                    have t381 : tyq378 sk = 56 := gSg.typ xq378 sh179.1 lp173c1 rfl
                    have t382 : tyq378 c150 = 73 := gSg.typ xq378 sh179.1 lp173c2 rfl
                    have t383 : tyq378 bv2 = 114 := gSg.typ xq378 sh179.1 lp173r1 rfl
                    have hl384 : hq378.2.2.2.1 bv2 = h179.2.2.2.1 bv2 := gSg.len xq378 sh179.1 lp173r1 rfl
                    have s385 := gSg.at xq378 sh179.1 lp173c0 rfl (by decide) lp173k0
                    have s386 := gSg.at xq378 sh179.1 lp173c0 rfl (by decide) lp173k1
                    have s387 := gSg.at xq378 sh179.1 lp173c0 rfl (by decide) lp173k2
                    have s388 := gSg.at xq378 sh179.1 lp173c0 rfl (by decide) lp173k3
                    have s389 := gSg.at xq378 sh179.1 lp173c0 rfl (by decide) lp173k4
                    have s390 := gSg.at xq378 sh179.1 lp173c0 rfl (by decide) lp173k5
                    have s391 := gSg.at xq378 sh179.1 lp173c0 rfl (by decide) lp173k6
                    have s392 := gSg.at xq378 sh179.1 lp173c0 rfl (by decide) lp173k10
                    have pr393 := gTab.gr xq378 sh179.1 rfl rfl (fun _ => rfl) (fun _ => rfl) (by decide) (by decide) (by decide) (by decide) lp173k11
                    have pr394 := gRn.gr xq378 sh179.1 rfl (by decide) (by decide) lp173k12
                    have pr395 := gJv.gr xq378 sh179.1 (by decide) lp173k15
                    have uq396 := gSg.uq xq378 lp173u (by decide)
                    have sS397 : gSs rT 1027 tyq378 [56000, 56001, 56002, 56003, 71013, 71014, 114999] hq378 hq378 := gSs.rf xq378.1
                    refine gz_s 2 (pc' := 143) (L' := [some (.ref x), some (.int (zi p)), some (.int (zi zq1)), some (.int (zi rn2)), some (.int (zi k)), some (.int (zi z152)), some (.int (zi (zq154 / 2 ^ (lw).toNat)))]) (S' := [.int (zi z152), .ref x]) rfl ?_
                    by_cases hc398 : (0 : Int) ≤ z152
                    · refine gy_ifT (pc' := 150) rfl (by decide) (by decide) (by omega) hc398 ?_
                      refine gz_s 2 (pc' := 152) (L' := [some (.ref x), some (.int (zi p)), some (.int (zi zq1)), some (.int (zi rn2)), some (.int (zi k)), some (.int (zi z152)), some (.int (zi (zq154 / 2 ^ (lw).toNat)))]) (S' := [.int (zi 1), .int (zi 1), .ref x]) rfl ?_
                      have hl399 : hq378.2.2.2.1 cq378_0 = hq378.2.2.2.1 cq378_0 := congrFun sS397.2.2.2.2.1 cq378_0
                      refine gz_call rfl (by decide) rfl (by decide) (by decide) (gcal_of rfl rfl rfl (Nat.le_of_ble_eq_true rfl) (gJ.recv (G := gGG) sS397.1 t380 rfl rfl)) (cw_putPlain _ sS397.1 x t380 1 ⟨by omega, by omega⟩ 1 ⟨by omega, by omega⟩ sk s385 t381 cq378_0 ecq378_0 tcq378_0 fq378_0 efq378_0 ⟨by omega, by omega⟩ fq378_1 efq378_1 ⟨by omega, by omega⟩ fq378_2 efq378_2 ⟨by omega, by omega⟩ cg s386 ⟨by omega, by omega⟩ (ewS ec79 ((16 * rn2) + 1) ew.2.2.2) (Int.le_antisymm (by omega) (by omega)) (Int.le_antisymm (by omega) (by omega)) (Int.le_antisymm (by omega) (by omega)) (by omega) (by omega) uq396 yq378_0 yq378_1) (fun q400 _ wq400 => ?_)
                      obtain ⟨pq400, oq400, hq400⟩ := q400
                      obtain ⟨tyq400, xq400, cq400_0, ttq400, fq400_0, fq400_1, fq400_2, ecq400_0, tcq400_0, gq400, efq400_0, afq400_0, bfq400_0, efq400_1, afq400_1, bfq400_1, efq400_2, afq400_2, bfq400_2, uq400_0, uq400_1, uq400_2, uq400_3, uq400_4, uq400_5, uq400_6, uq400_7, uq400_8, yq400_0, yq400_1⟩ := wq400
                      dsimp only at uq400_5 uq400_6 uq400_7 uq400_8
                      refine ⟨_, gq400, ?_⟩
                      show gz gPP gGG gcn _ _ 155 [some (.ref x), some (.int (zi p)), some (.int (zi zq1)), some (.int (zi rn2)), some (.int (zi k)), some (.int (zi z152)), some (.int (zi (zq154 / 2 ^ (lw).toNat)))] [] hq400 _
                      have G401 : gSg [114] [] [56000, 56001, 56002, 56003, 71013, 71014, 114999] ty h tyq400 hq400 := gSg.tr (gSg.ss G379 sS397 (by decide)) xq400 (by decide) (by decide) (fun x hx => by cases hx)
                      have t402 : tyq400 x = 71 := gSg.typ xq400 sS397.1 t380 rfl
                      have t403 : tyq400 sk = 56 := gSg.typ xq400 sS397.1 t381 rfl
                      have t404 : tyq400 c150 = 73 := gSg.typ xq400 sS397.1 t382 rfl
                      have t405 : tyq400 bv2 = 114 := gSg.typ xq400 sS397.1 t383 rfl
                      have hl406 : hq400.2.2.2.1 bv2 = hq378.2.2.2.1 bv2 := gSg.len xq400 sS397.1 t383 rfl
                      have t407 : tyq400 cq378_0 = 114 := gSg.typ xq400 sS397.1 tcq378_0 rfl
                      have hl408 : hq400.2.2.2.1 cq378_0 = hq378.2.2.2.1 cq378_0 := gSg.len xq400 sS397.1 tcq378_0 rfl
                      have s409 := gSg.at xq400 sS397.1 t380 rfl (by decide) s385
                      have s410 := gSg.at xq400 sS397.1 t380 rfl (by decide) s386
                      have s411 := gSg.at xq400 sS397.1 t380 rfl (by decide) s387
                      have s412 := gSg.at xq400 sS397.1 t380 rfl (by decide) s388
                      have s413 := gSg.at xq400 sS397.1 t380 rfl (by decide) s389
                      have s414 := gSg.at xq400 sS397.1 t380 rfl (by decide) s390
                      have s415 := gSg.at xq400 sS397.1 t380 rfl (by decide) s391
                      have s416 := gSg.at xq400 sS397.1 t380 rfl (by decide) s392
                      have pr417 := gTab.gr xq400 sS397.1 rfl rfl (fun _ => rfl) (fun _ => rfl) (by decide) (by decide) (by decide) (by decide) pr393
                      have pr418 := gRn.gr xq400 sS397.1 rfl (by decide) (by decide) pr394
                      have pr419 := gJv.gr xq400 sS397.1 (by decide) pr395
                      have uq420 := gSg.uq xq400 uq396 (by decide)
                      have sS421 : gSs rT 1027 tyq400 [56000, 56001, 56002, 56003, 71013, 71014, 114999] hq400 hq400 := gSs.rf xq400.1
                      have hwq422e : Int.toNat wv2 = ew.2.2.1 := (congrArg Int.toNat lp173f9).trans (Int.toNat_natCast _)
                      have hwq422 : gJv tyq400 x ew.2.1 (Int.toNat wv2) hq400 := by rw [hwq422e]; exact pr419
                      refine gz_s 1 (pc' := 156) (L' := [some (.ref x), some (.int (zi p)), some (.int (zi zq1)), some (.int (zi rn2)), some (.int (zi k)), some (.int (zi z152)), some (.int (zi (zq154 / 2 ^ (lw).toNat)))]) (S' := [.ref x]) rfl ?_
                      have hl423 : hq400.2.2.2.1 cq400_0 = hq400.2.2.2.1 cq400_0 := congrFun sS421.2.2.2.2.1 cq400_0
                      refine gz_call rfl (by decide) rfl (by decide) (by decide) (gcal_of rfl rfl rfl (Nat.le_of_ble_eq_true rfl) (gJ.recv (G := gGG) sS421.1 t402 rfl rfl)) (cw_putWaiting _ sS421.1 x t402 sk s409 t403 cq400_0 ecq400_0 tcq400_0 fq400_0 efq400_0 ⟨by omega, by omega⟩ fq400_1 efq400_1 ⟨by omega, by omega⟩ fq400_2 efq400_2 ⟨by omega, by omega⟩ cg s410 ⟨by omega, by omega⟩ wv2 s416 ⟨by omega, by omega⟩ (eeN 1 (Int.toNat 1) (ewS ec79 ((16 * rn2) + 1) ew.2.2.2)) ew.2.1 (Int.le_antisymm (by omega) (by omega)) (Int.le_antisymm (by omega) (by omega)) (Int.le_antisymm (by omega) (by omega)) (by omega) (by omega) uq420 yq400_0 yq400_1 hwq422) (fun q424 _ wq424 => ?_)
                      obtain ⟨pq424, oq424, hq424⟩ := q424
                      obtain ⟨tyq424, xq424, cq424_0, ttq424, fq424_0, fq424_1, fq424_2, fq424_3, ecq424_0, tcq424_0, gq424, efq424_0, afq424_0, bfq424_0, efq424_1, afq424_1, bfq424_1, efq424_2, afq424_2, bfq424_2, efq424_3, afq424_3, bfq424_3, uq424_0, uq424_1, uq424_2, uq424_3, uq424_4, uq424_5, uq424_6, uq424_7, uq424_8, uq424_9, yq424_0, yq424_1, yq424_2⟩ := wq424
                      dsimp only at uq424_5 uq424_6 uq424_7 uq424_9
                      refine ⟨_, gq424, ?_⟩
                      show gz gPP gGG gcn _ _ 159 [some (.ref x), some (.int (zi p)), some (.int (zi zq1)), some (.int (zi rn2)), some (.int (zi k)), some (.int (zi z152)), some (.int (zi (zq154 / 2 ^ (lw).toNat)))] [] hq424 _
                      have G425 : gSg [114] [] [56000, 56001, 56002, 56003, 71013, 71014, 114999] ty h tyq424 hq424 := gSg.tr (gSg.ss G401 sS421 (by decide)) xq424 (by decide) (by decide) (fun x hx => by cases hx)
                      have t426 : tyq424 x = 71 := gSg.typ xq424 sS421.1 t402 rfl
                      have t427 : tyq424 sk = 56 := gSg.typ xq424 sS421.1 t403 rfl
                      have t428 : tyq424 c150 = 73 := gSg.typ xq424 sS421.1 t404 rfl
                      have t429 : tyq424 bv2 = 114 := gSg.typ xq424 sS421.1 t405 rfl
                      have hl430 : hq424.2.2.2.1 bv2 = hq400.2.2.2.1 bv2 := gSg.len xq424 sS421.1 t405 rfl
                      have t431 : tyq424 cq378_0 = 114 := gSg.typ xq424 sS421.1 t407 rfl
                      have hl432 : hq424.2.2.2.1 cq378_0 = hq400.2.2.2.1 cq378_0 := gSg.len xq424 sS421.1 t407 rfl
                      have t433 : tyq424 cq400_0 = 114 := gSg.typ xq424 sS421.1 tcq400_0 rfl
                      have hl434 : hq424.2.2.2.1 cq400_0 = hq400.2.2.2.1 cq400_0 := gSg.len xq424 sS421.1 tcq400_0 rfl
                      have s435 := gSg.at xq424 sS421.1 t402 rfl (by decide) s409
                      have s436 := gSg.at xq424 sS421.1 t402 rfl (by decide) s410
                      have s437 := gSg.at xq424 sS421.1 t402 rfl (by decide) s411
                      have s438 := gSg.at xq424 sS421.1 t402 rfl (by decide) s412
                      have s439 := gSg.at xq424 sS421.1 t402 rfl (by decide) s413
                      have s440 := gSg.at xq424 sS421.1 t402 rfl (by decide) s414
                      have s441 := gSg.at xq424 sS421.1 t402 rfl (by decide) s415
                      have pr442 := gTab.gr xq424 sS421.1 rfl rfl (fun _ => rfl) (fun _ => rfl) (by decide) (by decide) (by decide) (by decide) pr417
                      have pr443 := gRn.gr xq424 sS421.1 rfl (by decide) (by decide) pr418
                      have pr444 := gJv.gr xq424 sS421.1 (by decide) hwq422
                      have uq445 := gSg.uq xq424 uq420 (by decide)
                      have sS446 : gSs rT 1027 tyq424 [56000, 56001, 56002, 56003, 71013, 71014, 114999] hq424 hq424 := gSs.rf xq424.1
                      have hk447 : eeN ew.2.1 ew.2.2.1 (eeN 1 (Int.toNat 1) (ewS ec79 ((16 * rn2) + 1) ew.2.2.2)) = eeN ew.2.1 (Int.toNat wv2) (eeN 1 (Int.toNat 1) (ewS ec79 ((16 * rn2) + 1) ew.2.2.2)) := by rw [hwq422e]
                      have hk447_1 : (eeN ew.2.1 ew.2.2.1 (eeN 1 (Int.toNat 1) (ewS ec79 ((16 * rn2) + 1) ew.2.2.2))).1 = (eeN ew.2.1 (Int.toNat wv2) (eeN 1 (Int.toNat 1) (ewS ec79 ((16 * rn2) + 1) ew.2.2.2))).1 := by rw [hk447]
                      have hk447_21 : (eeN ew.2.1 ew.2.2.1 (eeN 1 (Int.toNat 1) (ewS ec79 ((16 * rn2) + 1) ew.2.2.2))).2.1 = (eeN ew.2.1 (Int.toNat wv2) (eeN 1 (Int.toNat 1) (ewS ec79 ((16 * rn2) + 1) ew.2.2.2))).2.1 := by rw [hk447]
                      have hk447_221 : (eeN ew.2.1 ew.2.2.1 (eeN 1 (Int.toNat 1) (ewS ec79 ((16 * rn2) + 1) ew.2.2.2))).2.2.1 = (eeN ew.2.1 (Int.toNat wv2) (eeN 1 (Int.toNat 1) (ewS ec79 ((16 * rn2) + 1) ew.2.2.2))).2.2.1 := by rw [hk447]
                      have hsw448 : gSW tyq424 cq424_0 (eeN ew.2.1 ew.2.2.1 (eeN 1 (Int.toNat 1) (ewS ec79 ((16 * rn2) + 1) ew.2.2.2))) hq424 := by rw [hk447]; exact yq424_0
                      have hok449 : eeOk (eeN ew.2.1 ew.2.2.1 (eeN 1 (Int.toNat 1) (ewS ec79 ((16 * rn2) + 1) ew.2.2.2))) := by rw [hk447]; exact yq424_1
                      have hoc450 := hok449.cur
                      refine gz_s 2 (pc' := 161) (L' := [some (.ref x), some (.int (zi p)), some (.int (zi zq1)), some (.int (zi 0)), some (.int (zi k)), some (.int (zi z152)), some (.int (zi (zq154 / 2 ^ (lw).toNat)))]) (S' := []) rfl ?_
                      have hR : eeRk (ewS ec79) eeN lw cf p fr tt sg (k + 1) = (0, ew.2.1, 0, eeN ew.2.1 ew.2.2.1 (eeN 1 (Int.toNat 1) (ewS ec79 ((16 * rn2) + 1) ew.2.2.2))) := hRv 1 (if_neg (by omega : ¬ z152 < 0)).symm
                      have hR_1 : (eeRk (ewS ec79) eeN lw cf p fr tt sg (k + 1)).1 = 0 := by rw [hR]
                      have hR_21 : (eeRk (ewS ec79) eeN lw cf p fr tt sg (k + 1)).2.1 = ew.2.1 := by rw [hR]
                      have hR_221 : (eeRk (ewS ec79) eeN lw cf p fr tt sg (k + 1)).2.2.1 = 0 := by rw [hR]
                      have hk451 : (eeRk (ewS ec79) eeN lw cf p fr tt sg (k + 1)).2.2.2 = eeN ew.2.1 ew.2.2.1 (eeN 1 (Int.toNat 1) (ewS ec79 ((16 * rn2) + 1) ew.2.2.2)) := by rw [hR]
                      have hk451_1 : ((eeRk (ewS ec79) eeN lw cf p fr tt sg (k + 1)).2.2.2).1 = (eeN ew.2.1 ew.2.2.1 (eeN 1 (Int.toNat 1) (ewS ec79 ((16 * rn2) + 1) ew.2.2.2))).1 := by rw [hk451]
                      have hk451_21 : ((eeRk (ewS ec79) eeN lw cf p fr tt sg (k + 1)).2.2.2).2.1 = (eeN ew.2.1 ew.2.2.1 (eeN 1 (Int.toNat 1) (ewS ec79 ((16 * rn2) + 1) ew.2.2.2))).2.1 := by rw [hk451]
                      have hk451_221 : ((eeRk (ewS ec79) eeN lw cf p fr tt sg (k + 1)).2.2.2).2.2.1 = (eeN ew.2.1 ew.2.2.1 (eeN 1 (Int.toNat 1) (ewS ec79 ((16 * rn2) + 1) ew.2.2.2))).2.2.1 := by rw [hk451]
                      have hsw452 : gSW tyq424 cq424_0 ((eeRk (ewS ec79) eeN lw cf p fr tt sg (k + 1)).2.2.2) hq424 := by rw [hk451]; exact hsw448
                      have hok453 : eeOk ((eeRk (ewS ec79) eeN lw cf p fr tt sg (k + 1)).2.2.2) := by rw [hk451]; exact hok449
                      have hoc454 := hok453.cur
                      have hwq455 : gJv tyq424 x (eeRk (ewS ec79) eeN lw cf p fr tt sg (k + 1)).2.1 (eeRk (ewS ec79) eeN lw cf p fr tt sg (k + 1)).2.2.1 hq424 := by rw [hR]; exact yq424_2
                      refine gy_s 2 (pc' := 19) (L' := [some (.ref x), some (.int (zi p)), some (.int (zi zq1)), some (.int (zi 0)), some (.int ((zi k) + zi 1)), some (.int (zi z152)), some (.int (zi (zq154 / 2 ^ (lw).toNat)))]) (S' := []) (L2 := [some (.ref x), some (.int (zi p)), some (.int (zi zq1)), some (.int (zi 0)), some (.int (zi (k + 1))), some (.int (zi z152)), some (.int (zi (zq154 / 2 ^ (lw).toNat)))]) (S2 := []) rfl (by simp only [zi_add, zi_sub, zi_mul, zi_neg, zi_and1, zi_and7, zi_and15, zi_and31, zi_and255]) (by simp only [zi_add, zi_sub, zi_mul, zi_neg, zi_and1, zi_and7, zi_and15, zi_and31, zi_and255]) ?_
                      have hl456 : 1024 ≤ hq424.2.2.2.1 bv2 ∧ hq424.2.2.2.1 bv2 ≤ 1000000 := gJ.rowl (G := gGG) sS446.1 t429 rfl
                      have hl457 : 1024 ≤ hq424.2.2.2.1 cq378_0 ∧ hq424.2.2.2.1 cq378_0 ≤ 1000000 := gJ.rowl (G := gGG) sS446.1 t431 rfl
                      have hl458 : 1024 ≤ hq424.2.2.2.1 cq400_0 ∧ hq424.2.2.2.1 cq400_0 ≤ 1000000 := gJ.rowl (G := gGG) sS446.1 t433 rfl
                      have hl459 : 1024 ≤ hq424.2.2.2.1 cq424_0 ∧ hq424.2.2.2.1 cq424_0 ≤ 1000000 := gJ.rowl (G := gGG) sS446.1 tcq424_0 rfl
                      have G460 : gSg [114] [] [56000, 56001, 56002, 56003, 71013, 71014, 114999] ty h tyq424 hq424 := gSg.ss G425 sS446 (by decide)
                      exact gz_wk (ihlp29 tyq424 hq424 cq424_0 0 (k + 1) fq424_0 fq424_1 fq424_2 fq424_3 (gms lp29m (by omega) (by omega)) G460 uq445 t426 t427 ecq424_0 tcq424_0 ⟨by omega, by omega⟩ ⟨by omega, by omega⟩ ⟨by omega, by omega⟩ ⟨by omega, by omega⟩ ⟨by omega, by omega⟩ ⟨by omega, by omega⟩ (Int.le_antisymm (by omega) (by omega)) (Int.le_antisymm (by omega) (by omega)) (by omega) (by omega) (by omega) (Int.le_antisymm (by omega) (by omega)) (Int.le_antisymm (by omega) (by omega)) (Int.le_antisymm (by omega) (by omega)) (by omega) (by omega) (by omega) (by omega) (by omega) (by omega) s435 s436 s437 s438 s439 s440 efq424_0 efq424_1 efq424_2 efq424_3 pr442 pr443 hsw452 hok453 hwq455) (gLw.s (gLw.s (gLw.s (gLw.s (gLw.s (gLw.n (gLw.n gLw.z)))))))
                    · refine gy_ifF rfl (by decide) (by decide) (by omega) hc398 ?_
                      refine gz_s 3 (pc' := 152) (L' := [some (.ref x), some (.int (zi p)), some (.int (zi zq1)), some (.int (zi rn2)), some (.int (zi k)), some (.int (zi z152)), some (.int (zi (zq154 / 2 ^ (lw).toNat)))]) (S' := [.int (zi 1), .int (zi 0), .ref x]) rfl ?_
                      have hl461 : hq378.2.2.2.1 cq378_0 = hq378.2.2.2.1 cq378_0 := congrFun sS397.2.2.2.2.1 cq378_0
                      refine gz_call rfl (by decide) rfl (by decide) (by decide) (gcal_of rfl rfl rfl (Nat.le_of_ble_eq_true rfl) (gJ.recv (G := gGG) sS397.1 t380 rfl rfl)) (cw_putPlain _ sS397.1 x t380 0 ⟨by omega, by omega⟩ 1 ⟨by omega, by omega⟩ sk s385 t381 cq378_0 ecq378_0 tcq378_0 fq378_0 efq378_0 ⟨by omega, by omega⟩ fq378_1 efq378_1 ⟨by omega, by omega⟩ fq378_2 efq378_2 ⟨by omega, by omega⟩ cg s386 ⟨by omega, by omega⟩ (ewS ec79 ((16 * rn2) + 1) ew.2.2.2) (Int.le_antisymm (by omega) (by omega)) (Int.le_antisymm (by omega) (by omega)) (Int.le_antisymm (by omega) (by omega)) (by omega) (by omega) uq396 yq378_0 yq378_1) (fun q462 _ wq462 => ?_)
                      obtain ⟨pq462, oq462, hq462⟩ := q462
                      obtain ⟨tyq462, xq462, cq462_0, ttq462, fq462_0, fq462_1, fq462_2, ecq462_0, tcq462_0, gq462, efq462_0, afq462_0, bfq462_0, efq462_1, afq462_1, bfq462_1, efq462_2, afq462_2, bfq462_2, uq462_0, uq462_1, uq462_2, uq462_3, uq462_4, uq462_5, uq462_6, uq462_7, uq462_8, yq462_0, yq462_1⟩ := wq462
                      dsimp only at uq462_5 uq462_6 uq462_7 uq462_8
                      refine ⟨_, gq462, ?_⟩
                      show gz gPP gGG gcn _ _ 155 [some (.ref x), some (.int (zi p)), some (.int (zi zq1)), some (.int (zi rn2)), some (.int (zi k)), some (.int (zi z152)), some (.int (zi (zq154 / 2 ^ (lw).toNat)))] [] hq462 _
                      have G463 : gSg [114] [] [56000, 56001, 56002, 56003, 71013, 71014, 114999] ty h tyq462 hq462 := gSg.tr (gSg.ss G379 sS397 (by decide)) xq462 (by decide) (by decide) (fun x hx => by cases hx)
                      have t464 : tyq462 x = 71 := gSg.typ xq462 sS397.1 t380 rfl
                      have t465 : tyq462 sk = 56 := gSg.typ xq462 sS397.1 t381 rfl
                      have t466 : tyq462 c150 = 73 := gSg.typ xq462 sS397.1 t382 rfl
                      have t467 : tyq462 bv2 = 114 := gSg.typ xq462 sS397.1 t383 rfl
                      have hl468 : hq462.2.2.2.1 bv2 = hq378.2.2.2.1 bv2 := gSg.len xq462 sS397.1 t383 rfl
                      have t469 : tyq462 cq378_0 = 114 := gSg.typ xq462 sS397.1 tcq378_0 rfl
                      have hl470 : hq462.2.2.2.1 cq378_0 = hq378.2.2.2.1 cq378_0 := gSg.len xq462 sS397.1 tcq378_0 rfl
                      have s471 := gSg.at xq462 sS397.1 t380 rfl (by decide) s385
                      have s472 := gSg.at xq462 sS397.1 t380 rfl (by decide) s386
                      have s473 := gSg.at xq462 sS397.1 t380 rfl (by decide) s387
                      have s474 := gSg.at xq462 sS397.1 t380 rfl (by decide) s388
                      have s475 := gSg.at xq462 sS397.1 t380 rfl (by decide) s389
                      have s476 := gSg.at xq462 sS397.1 t380 rfl (by decide) s390
                      have s477 := gSg.at xq462 sS397.1 t380 rfl (by decide) s391
                      have s478 := gSg.at xq462 sS397.1 t380 rfl (by decide) s392
                      have pr479 := gTab.gr xq462 sS397.1 rfl rfl (fun _ => rfl) (fun _ => rfl) (by decide) (by decide) (by decide) (by decide) pr393
                      have pr480 := gRn.gr xq462 sS397.1 rfl (by decide) (by decide) pr394
                      have pr481 := gJv.gr xq462 sS397.1 (by decide) pr395
                      have uq482 := gSg.uq xq462 uq396 (by decide)
                      have sS483 : gSs rT 1027 tyq462 [56000, 56001, 56002, 56003, 71013, 71014, 114999] hq462 hq462 := gSs.rf xq462.1
                      have hwq484e : Int.toNat wv2 = ew.2.2.1 := (congrArg Int.toNat lp173f9).trans (Int.toNat_natCast _)
                      have hwq484 : gJv tyq462 x ew.2.1 (Int.toNat wv2) hq462 := by rw [hwq484e]; exact pr481
                      refine gz_s 1 (pc' := 156) (L' := [some (.ref x), some (.int (zi p)), some (.int (zi zq1)), some (.int (zi rn2)), some (.int (zi k)), some (.int (zi z152)), some (.int (zi (zq154 / 2 ^ (lw).toNat)))]) (S' := [.ref x]) rfl ?_
                      have hl485 : hq462.2.2.2.1 cq462_0 = hq462.2.2.2.1 cq462_0 := congrFun sS483.2.2.2.2.1 cq462_0
                      refine gz_call rfl (by decide) rfl (by decide) (by decide) (gcal_of rfl rfl rfl (Nat.le_of_ble_eq_true rfl) (gJ.recv (G := gGG) sS483.1 t464 rfl rfl)) (cw_putWaiting _ sS483.1 x t464 sk s471 t465 cq462_0 ecq462_0 tcq462_0 fq462_0 efq462_0 ⟨by omega, by omega⟩ fq462_1 efq462_1 ⟨by omega, by omega⟩ fq462_2 efq462_2 ⟨by omega, by omega⟩ cg s472 ⟨by omega, by omega⟩ wv2 s478 ⟨by omega, by omega⟩ (eeN 0 (Int.toNat 1) (ewS ec79 ((16 * rn2) + 1) ew.2.2.2)) ew.2.1 (Int.le_antisymm (by omega) (by omega)) (Int.le_antisymm (by omega) (by omega)) (Int.le_antisymm (by omega) (by omega)) (by omega) (by omega) uq482 yq462_0 yq462_1 hwq484) (fun q486 _ wq486 => ?_)
                      obtain ⟨pq486, oq486, hq486⟩ := q486
                      obtain ⟨tyq486, xq486, cq486_0, ttq486, fq486_0, fq486_1, fq486_2, fq486_3, ecq486_0, tcq486_0, gq486, efq486_0, afq486_0, bfq486_0, efq486_1, afq486_1, bfq486_1, efq486_2, afq486_2, bfq486_2, efq486_3, afq486_3, bfq486_3, uq486_0, uq486_1, uq486_2, uq486_3, uq486_4, uq486_5, uq486_6, uq486_7, uq486_8, uq486_9, yq486_0, yq486_1, yq486_2⟩ := wq486
                      dsimp only at uq486_5 uq486_6 uq486_7 uq486_9
                      refine ⟨_, gq486, ?_⟩
                      show gz gPP gGG gcn _ _ 159 [some (.ref x), some (.int (zi p)), some (.int (zi zq1)), some (.int (zi rn2)), some (.int (zi k)), some (.int (zi z152)), some (.int (zi (zq154 / 2 ^ (lw).toNat)))] [] hq486 _
                      have G487 : gSg [114] [] [56000, 56001, 56002, 56003, 71013, 71014, 114999] ty h tyq486 hq486 := gSg.tr (gSg.ss G463 sS483 (by decide)) xq486 (by decide) (by decide) (fun x hx => by cases hx)
                      have t488 : tyq486 x = 71 := gSg.typ xq486 sS483.1 t464 rfl
                      have t489 : tyq486 sk = 56 := gSg.typ xq486 sS483.1 t465 rfl
                      have t490 : tyq486 c150 = 73 := gSg.typ xq486 sS483.1 t466 rfl
                      have t491 : tyq486 bv2 = 114 := gSg.typ xq486 sS483.1 t467 rfl
                      have hl492 : hq486.2.2.2.1 bv2 = hq462.2.2.2.1 bv2 := gSg.len xq486 sS483.1 t467 rfl
                      have t493 : tyq486 cq378_0 = 114 := gSg.typ xq486 sS483.1 t469 rfl
                      have hl494 : hq486.2.2.2.1 cq378_0 = hq462.2.2.2.1 cq378_0 := gSg.len xq486 sS483.1 t469 rfl
                      have t495 : tyq486 cq462_0 = 114 := gSg.typ xq486 sS483.1 tcq462_0 rfl
                      have hl496 : hq486.2.2.2.1 cq462_0 = hq462.2.2.2.1 cq462_0 := gSg.len xq486 sS483.1 tcq462_0 rfl
                      have s497 := gSg.at xq486 sS483.1 t464 rfl (by decide) s471
                      have s498 := gSg.at xq486 sS483.1 t464 rfl (by decide) s472
                      have s499 := gSg.at xq486 sS483.1 t464 rfl (by decide) s473
                      have s500 := gSg.at xq486 sS483.1 t464 rfl (by decide) s474
                      have s501 := gSg.at xq486 sS483.1 t464 rfl (by decide) s475
                      have s502 := gSg.at xq486 sS483.1 t464 rfl (by decide) s476
                      have s503 := gSg.at xq486 sS483.1 t464 rfl (by decide) s477
                      have pr504 := gTab.gr xq486 sS483.1 rfl rfl (fun _ => rfl) (fun _ => rfl) (by decide) (by decide) (by decide) (by decide) pr479
                      have pr505 := gRn.gr xq486 sS483.1 rfl (by decide) (by decide) pr480
                      have pr506 := gJv.gr xq486 sS483.1 (by decide) hwq484
                      have uq507 := gSg.uq xq486 uq482 (by decide)
                      have sS508 : gSs rT 1027 tyq486 [56000, 56001, 56002, 56003, 71013, 71014, 114999] hq486 hq486 := gSs.rf xq486.1
                      have hk509 : eeN ew.2.1 ew.2.2.1 (eeN 0 (Int.toNat 1) (ewS ec79 ((16 * rn2) + 1) ew.2.2.2)) = eeN ew.2.1 (Int.toNat wv2) (eeN 0 (Int.toNat 1) (ewS ec79 ((16 * rn2) + 1) ew.2.2.2)) := by rw [hwq484e]
                      have hk509_1 : (eeN ew.2.1 ew.2.2.1 (eeN 0 (Int.toNat 1) (ewS ec79 ((16 * rn2) + 1) ew.2.2.2))).1 = (eeN ew.2.1 (Int.toNat wv2) (eeN 0 (Int.toNat 1) (ewS ec79 ((16 * rn2) + 1) ew.2.2.2))).1 := by rw [hk509]
                      have hk509_21 : (eeN ew.2.1 ew.2.2.1 (eeN 0 (Int.toNat 1) (ewS ec79 ((16 * rn2) + 1) ew.2.2.2))).2.1 = (eeN ew.2.1 (Int.toNat wv2) (eeN 0 (Int.toNat 1) (ewS ec79 ((16 * rn2) + 1) ew.2.2.2))).2.1 := by rw [hk509]
                      have hk509_221 : (eeN ew.2.1 ew.2.2.1 (eeN 0 (Int.toNat 1) (ewS ec79 ((16 * rn2) + 1) ew.2.2.2))).2.2.1 = (eeN ew.2.1 (Int.toNat wv2) (eeN 0 (Int.toNat 1) (ewS ec79 ((16 * rn2) + 1) ew.2.2.2))).2.2.1 := by rw [hk509]
                      have hsw510 : gSW tyq486 cq486_0 (eeN ew.2.1 ew.2.2.1 (eeN 0 (Int.toNat 1) (ewS ec79 ((16 * rn2) + 1) ew.2.2.2))) hq486 := by rw [hk509]; exact yq486_0
                      have hok511 : eeOk (eeN ew.2.1 ew.2.2.1 (eeN 0 (Int.toNat 1) (ewS ec79 ((16 * rn2) + 1) ew.2.2.2))) := by rw [hk509]; exact yq486_1
                      have hoc512 := hok511.cur
                      refine gz_s 2 (pc' := 161) (L' := [some (.ref x), some (.int (zi p)), some (.int (zi zq1)), some (.int (zi 0)), some (.int (zi k)), some (.int (zi z152)), some (.int (zi (zq154 / 2 ^ (lw).toNat)))]) (S' := []) rfl ?_
                      have hR : eeRk (ewS ec79) eeN lw cf p fr tt sg (k + 1) = (0, ew.2.1, 0, eeN ew.2.1 ew.2.2.1 (eeN 0 (Int.toNat 1) (ewS ec79 ((16 * rn2) + 1) ew.2.2.2))) := hRv 0 (if_pos (by omega : z152 < 0)).symm
                      have hR_1 : (eeRk (ewS ec79) eeN lw cf p fr tt sg (k + 1)).1 = 0 := by rw [hR]
                      have hR_21 : (eeRk (ewS ec79) eeN lw cf p fr tt sg (k + 1)).2.1 = ew.2.1 := by rw [hR]
                      have hR_221 : (eeRk (ewS ec79) eeN lw cf p fr tt sg (k + 1)).2.2.1 = 0 := by rw [hR]
                      have hk513 : (eeRk (ewS ec79) eeN lw cf p fr tt sg (k + 1)).2.2.2 = eeN ew.2.1 ew.2.2.1 (eeN 0 (Int.toNat 1) (ewS ec79 ((16 * rn2) + 1) ew.2.2.2)) := by rw [hR]
                      have hk513_1 : ((eeRk (ewS ec79) eeN lw cf p fr tt sg (k + 1)).2.2.2).1 = (eeN ew.2.1 ew.2.2.1 (eeN 0 (Int.toNat 1) (ewS ec79 ((16 * rn2) + 1) ew.2.2.2))).1 := by rw [hk513]
                      have hk513_21 : ((eeRk (ewS ec79) eeN lw cf p fr tt sg (k + 1)).2.2.2).2.1 = (eeN ew.2.1 ew.2.2.1 (eeN 0 (Int.toNat 1) (ewS ec79 ((16 * rn2) + 1) ew.2.2.2))).2.1 := by rw [hk513]
                      have hk513_221 : ((eeRk (ewS ec79) eeN lw cf p fr tt sg (k + 1)).2.2.2).2.2.1 = (eeN ew.2.1 ew.2.2.1 (eeN 0 (Int.toNat 1) (ewS ec79 ((16 * rn2) + 1) ew.2.2.2))).2.2.1 := by rw [hk513]
                      have hsw514 : gSW tyq486 cq486_0 ((eeRk (ewS ec79) eeN lw cf p fr tt sg (k + 1)).2.2.2) hq486 := by rw [hk513]; exact hsw510
                      have hok515 : eeOk ((eeRk (ewS ec79) eeN lw cf p fr tt sg (k + 1)).2.2.2) := by rw [hk513]; exact hok511
                      have hoc516 := hok515.cur
                      have hwq517 : gJv tyq486 x (eeRk (ewS ec79) eeN lw cf p fr tt sg (k + 1)).2.1 (eeRk (ewS ec79) eeN lw cf p fr tt sg (k + 1)).2.2.1 hq486 := by rw [hR]; exact yq486_2
                      refine gy_s 2 (pc' := 19) (L' := [some (.ref x), some (.int (zi p)), some (.int (zi zq1)), some (.int (zi 0)), some (.int ((zi k) + zi 1)), some (.int (zi z152)), some (.int (zi (zq154 / 2 ^ (lw).toNat)))]) (S' := []) (L2 := [some (.ref x), some (.int (zi p)), some (.int (zi zq1)), some (.int (zi 0)), some (.int (zi (k + 1))), some (.int (zi z152)), some (.int (zi (zq154 / 2 ^ (lw).toNat)))]) (S2 := []) rfl (by simp only [zi_add, zi_sub, zi_mul, zi_neg, zi_and1, zi_and7, zi_and15, zi_and31, zi_and255]) (by simp only [zi_add, zi_sub, zi_mul, zi_neg, zi_and1, zi_and7, zi_and15, zi_and31, zi_and255]) ?_
                      have hl518 : 1024 ≤ hq486.2.2.2.1 bv2 ∧ hq486.2.2.2.1 bv2 ≤ 1000000 := gJ.rowl (G := gGG) sS508.1 t491 rfl
                      have hl519 : 1024 ≤ hq486.2.2.2.1 cq378_0 ∧ hq486.2.2.2.1 cq378_0 ≤ 1000000 := gJ.rowl (G := gGG) sS508.1 t493 rfl
                      have hl520 : 1024 ≤ hq486.2.2.2.1 cq462_0 ∧ hq486.2.2.2.1 cq462_0 ≤ 1000000 := gJ.rowl (G := gGG) sS508.1 t495 rfl
                      have hl521 : 1024 ≤ hq486.2.2.2.1 cq486_0 ∧ hq486.2.2.2.1 cq486_0 ≤ 1000000 := gJ.rowl (G := gGG) sS508.1 tcq486_0 rfl
                      have G522 : gSg [114] [] [56000, 56001, 56002, 56003, 71013, 71014, 114999] ty h tyq486 hq486 := gSg.ss G487 sS508 (by decide)
                      exact gz_wk (ihlp29 tyq486 hq486 cq486_0 0 (k + 1) fq486_0 fq486_1 fq486_2 fq486_3 (gms lp29m (by omega) (by omega)) G522 uq507 t488 t489 ecq486_0 tcq486_0 ⟨by omega, by omega⟩ ⟨by omega, by omega⟩ ⟨by omega, by omega⟩ ⟨by omega, by omega⟩ ⟨by omega, by omega⟩ ⟨by omega, by omega⟩ (Int.le_antisymm (by omega) (by omega)) (Int.le_antisymm (by omega) (by omega)) (by omega) (by omega) (by omega) (Int.le_antisymm (by omega) (by omega)) (Int.le_antisymm (by omega) (by omega)) (Int.le_antisymm (by omega) (by omega)) (by omega) (by omega) (by omega) (by omega) (by omega) (by omega) s497 s498 s499 s500 s501 s502 efq486_0 efq486_1 efq486_2 efq486_3 pr504 pr505 hsw514 hok515 hwq517) (gLw.s (gLw.s (gLw.s (gLw.s (gLw.s (gLw.n (gLw.n gLw.z)))))))
                  · refine gy_icF rfl (by decide) (by decide) (by omega) (by omega) hc376 ?_
                    refine gz_s 1 (pc' := 99) (L' := [some (.ref x), some (.int (zi p)), some (.int (zi zq1)), some (.int (zi rn2)), some (.int (zi k)), some (.int (zi z152)), some (.int (zi (zq154 / 2 ^ (lw).toNat)))]) (S' := [.ref x]) rfl ?_
                    refine gz_1 rfl (by decide) rfl rfl (pc' := 102) (S' := [.long (zl 2), .ref x]) (h' := h179) rfl ?_
                    refine gz_s 1 (pc' := 103) (L' := [some (.ref x), some (.int (zi p)), some (.int (zi zq1)), some (.int (zi rn2)), some (.int (zi k)), some (.int (zi z152)), some (.int (zi (zq154 / 2 ^ (lw).toNat)))]) (S' := [.ref x, .long (zl 2), .ref x]) rfl ?_
                    refine gs_getl rfl (by decide) rfl sh179.1 lp173c0 rfl rfl rfl (fun z523 ez523 az523 bz523 => ?_)
                    refine gy_s 1 (pc' := 107) (L' := [some (.ref x), some (.int (zi p)), some (.int (zi zq1)), some (.int (zi rn2)), some (.int (zi k)), some (.int (zi z152)), some (.int (zi (zq154 / 2 ^ (lw).toNat)))]) (S' := [.long ((zl 2) * (zl z523)), .ref x]) (L2 := [some (.ref x), some (.int (zi p)), some (.int (zi zq1)), some (.int (zi rn2)), some (.int (zi k)), some (.int (zi z152)), some (.int (zi (zq154 / 2 ^ (lw).toNat)))]) (S2 := [.long (zl (2 * z523)), .ref x]) rfl (by simp only [zi_add, zi_sub, zi_mul, zi_neg, zi_and1, zi_and7, zi_and15, zi_and31, zi_and255, zl_add, zl_sub, zl_mul, zl_neg]) (by simp only [zi_add, zi_sub, zi_mul, zi_neg, zi_and1, zi_and7, zi_and15, zi_and31, zi_and255, zl_add, zl_sub, zl_mul, zl_neg]) ?_
                    refine gy_lany (fun z524 ez524 az524 bz524 => ?_)
                    refine gy_s 3 (pc' := 111) (L' := [some (.ref x), some (.int (zi p)), some (.int (zi zq1)), some (.int (zi rn2)), some (.int (zi k)), some (.int (zi z152)), some (.int (zi (zq154 / 2 ^ (lw).toNat)))]) (S' := [.int ((zi (zq154 / 2 ^ (lw).toNat)) &&& (zi 1)), .long (zl z524), .ref x]) (L2 := [some (.ref x), some (.int (zi p)), some (.int (zi zq1)), some (.int (zi rn2)), some (.int (zi k)), some (.int (zi z152)), some (.int (zi (zq154 / 2 ^ (lw).toNat)))]) (S2 := [.int (zi ((zq154 / 2 ^ (lw).toNat) % 2)), .long (zl z524), .ref x]) rfl (by simp only [zi_add, zi_sub, zi_mul, zi_neg, zi_and1, zi_and7, zi_and15, zi_and31, zi_and255, zl_add, zl_sub, zl_mul, zl_neg]) (by simp only [zi_add, zi_sub, zi_mul, zi_neg, zi_and1, zi_and7, zi_and15, zi_and31, zi_and255, zl_add, zl_sub, zl_mul, zl_neg]) ?_
                    refine gy_i2l rfl (by decide) ⟨by omega, by omega⟩ ?_
                    refine gy_s 1 (pc' := 113) (L' := [some (.ref x), some (.int (zi p)), some (.int (zi zq1)), some (.int (zi rn2)), some (.int (zi k)), some (.int (zi z152)), some (.int (zi (zq154 / 2 ^ (lw).toNat)))]) (S' := [.long ((zl z524) + (zl ((zq154 / 2 ^ (lw).toNat) % 2))), .ref x]) (L2 := [some (.ref x), some (.int (zi p)), some (.int (zi zq1)), some (.int (zi rn2)), some (.int (zi k)), some (.int (zi z152)), some (.int (zi (zq154 / 2 ^ (lw).toNat)))]) (S2 := [.long (zl (z524 + ((zq154 / 2 ^ (lw).toNat) % 2))), .ref x]) rfl (by simp only [zi_add, zi_sub, zi_mul, zi_neg, zi_and1, zi_and7, zi_and15, zi_and31, zi_and255, zl_add, zl_sub, zl_mul, zl_neg]) (by simp only [zi_add, zi_sub, zi_mul, zi_neg, zi_and1, zi_and7, zi_and15, zi_and31, zi_and255, zl_add, zl_sub, zl_mul, zl_neg]) ?_
                    refine gy_lany (fun z525 ez525 az525 bz525 => ?_)
                    refine gs_putl rfl (by decide) rfl sh179 lp173c0 rfl rfl rfl rfl (Or.inl rfl) (by decide) (by omega) (by omega) (fun h526 sh526 eh526 fh526 => ?_)
                    have pr527 := gTab.pt fh526 lp173c0 (by decide) (by decide) lp173k11
                    have pr528 := gRn.pt fh526 lp173c0 (by decide) lp173k12
                    have pr529 := gSW.pt fh526 lp173c0 (by decide) lp173k13
                    have s530 := (fh526 x 0 (fun q => absurd q.2 (by decide))).trans lp173k0
                    have s531 := (fh526 x 11 (fun q => absurd q.2 (by decide))).trans lp173k1
                    have s532 := (fh526 x 7 (fun q => absurd q.2 (by decide))).trans lp173k2
                    have s533 := (fh526 x 8 (fun q => absurd q.2 (by decide))).trans lp173k3
                    have s534 := (fh526 x 10 (fun q => absurd q.2 (by decide))).trans lp173k4
                    have s535 := (fh526 x 5 (fun q => absurd q.2 (by decide))).trans lp173k5
                    have s536 := (fh526 x 2 (fun q => absurd q.2 (by decide))).trans lp173k6
                    have s537 := (fh526 sk 1 (fun q => absurd q.2 (by decide))).trans lp173k7
                    have s538 := (fh526 sk 2 (fun q => absurd q.2 (by decide))).trans lp173k8
                    have s539 := (fh526 sk 3 (fun q => absurd q.2 (by decide))).trans lp173k9
                    have s540 := (fh526 x 14 (fun q => absurd q.2 (by decide))).trans lp173k10
                    have s541 := (fh526 sk 0 (fun q => absurd q.2 (by decide))).trans lp173r0
                    have hwq542 : gJv ty180 x (2 * ew.2.1 + (zq154 / 2 ^ (lw).toNat) % 2) (ew.2.2.1 + 1) h526 := gJv.put (b := (zq154 / 2 ^ (lw).toNat) % 2) lp173k15 (by omega) ez523 ez525 eh526
                    refine gz_s 2 (pc' := 118) (L' := [some (.ref x), some (.int (zi p)), some (.int (zi zq1)), some (.int (zi rn2)), some (.int (zi k)), some (.int (zi z152)), some (.int (zi (zq154 / 2 ^ (lw).toNat)))]) (S' := [.ref x, .ref x]) rfl ?_
                    refine gs_gtk rfl (by decide) rfl sh526.1 lp173c0 rfl rfl s540 ?_
                    refine gy_s 2 (pc' := 123) (L' := [some (.ref x), some (.int (zi p)), some (.int (zi zq1)), some (.int (zi rn2)), some (.int (zi k)), some (.int (zi z152)), some (.int (zi (zq154 / 2 ^ (lw).toNat)))]) (S' := [.int ((zi wv2) + (zi 1)), .ref x]) (L2 := [some (.ref x), some (.int (zi p)), some (.int (zi zq1)), some (.int (zi rn2)), some (.int (zi k)), some (.int (zi z152)), some (.int (zi (zq154 / 2 ^ (lw).toNat)))]) (S2 := [.int (zi (wv2 + 1)), .ref x]) rfl (by simp only [zi_add, zi_sub, zi_mul, zi_neg, zi_and1, zi_and7, zi_and15, zi_and31, zi_and255]) (by simp only [zi_add, zi_sub, zi_mul, zi_neg, zi_and1, zi_and7, zi_and15, zi_and31, zi_and255]) ?_
                    refine gs_put rfl (by decide) rfl sh526 lp173c0 rfl rfl rfl rfl (Or.inl rfl) (by decide) (by omega) (by omega) (fun h543 sh543 eh543 fh543 => ?_)
                    have pr544 := gTab.pt fh543 lp173c0 (by decide) (by decide) pr527
                    have pr545 := gRn.pt fh543 lp173c0 (by decide) pr528
                    have pr546 := gSW.pt fh543 lp173c0 (by decide) pr529
                    have pr547 := gJv.pk fh543 (sh543.2.2.2.2.1.trans sh526.2.2.2.2.1.symm) lp173c0 (by decide) hwq542
                    have s548 := (fh543 x 0 (fun q => absurd q.2 (by decide))).trans s530
                    have s549 := (fh543 x 11 (fun q => absurd q.2 (by decide))).trans s531
                    have s550 := (fh543 x 7 (fun q => absurd q.2 (by decide))).trans s532
                    have s551 := (fh543 x 8 (fun q => absurd q.2 (by decide))).trans s533
                    have s552 := (fh543 x 10 (fun q => absurd q.2 (by decide))).trans s534
                    have s553 := (fh543 x 5 (fun q => absurd q.2 (by decide))).trans s535
                    have s554 := (fh543 x 2 (fun q => absurd q.2 (by decide))).trans s536
                    have s555 := (fh543 sk 1 (fun q => absurd q.2 (by decide))).trans s537
                    have s556 := (fh543 sk 2 (fun q => absurd q.2 (by decide))).trans s538
                    have s557 := (fh543 sk 3 (fun q => absurd q.2 (by decide))).trans s539
                    have s558 := (fh543 sk 0 (fun q => absurd q.2 (by decide))).trans s541
                    have s559 := (fh543 x 13 (fun q => absurd q.2 (by decide))).trans eh526
                    refine gz_s 1 (pc' := 161) (L' := [some (.ref x), some (.int (zi p)), some (.int (zi zq1)), some (.int (zi rn2)), some (.int (zi k)), some (.int (zi z152)), some (.int (zi (zq154 / 2 ^ (lw).toNat)))]) (S' := []) rfl ?_
                    have hR : eeRk (ewS ec79) eeN lw cf p fr tt sg (k + 1) = (ew.1, 2 * ew.2.1 + (zq154 / 2 ^ (lw).toNat) % 2, ew.2.2.1 + 1, ew.2.2.2) := by rw [eeRk_m (a := zq154 / 2 ^ (lw).toNat) (x := rn) (y := rn2) (by omega) (by omega) (by omega) hcf (by rw [hA]) (by omega) (by rw [← her]; exact lp29f6) ⟨by omega, by omega⟩ (e_hmc (Iff.of_eq (congrArg (fun x9 : Int => k ≤ x9) hlk9)) lp173f7 lp173f6 (by omega)), ← her, ← hew]
                    have hR_1 : (eeRk (ewS ec79) eeN lw cf p fr tt sg (k + 1)).1 = ew.1 := by rw [hR]
                    have hR_21 : (eeRk (ewS ec79) eeN lw cf p fr tt sg (k + 1)).2.1 = 2 * ew.2.1 + (zq154 / 2 ^ (lw).toNat) % 2 := by rw [hR]
                    have hR_221 : (eeRk (ewS ec79) eeN lw cf p fr tt sg (k + 1)).2.2.1 = ew.2.2.1 + 1 := by rw [hR]
                    have hk560 : (eeRk (ewS ec79) eeN lw cf p fr tt sg (k + 1)).2.2.2 = ew.2.2.2 := by rw [hR]
                    have hk560_1 : ((eeRk (ewS ec79) eeN lw cf p fr tt sg (k + 1)).2.2.2).1 = (ew.2.2.2).1 := by rw [hk560]
                    have hk560_21 : ((eeRk (ewS ec79) eeN lw cf p fr tt sg (k + 1)).2.2.2).2.1 = (ew.2.2.2).2.1 := by rw [hk560]
                    have hk560_221 : ((eeRk (ewS ec79) eeN lw cf p fr tt sg (k + 1)).2.2.2).2.2.1 = (ew.2.2.2).2.2.1 := by rw [hk560]
                    have hsw561 : gSW ty180 bv2 ((eeRk (ewS ec79) eeN lw cf p fr tt sg (k + 1)).2.2.2) h543 := by rw [hk560]; exact pr546
                    have hok562 : eeOk ((eeRk (ewS ec79) eeN lw cf p fr tt sg (k + 1)).2.2.2) := by rw [hk560]; exact lp173k14
                    have hoc563 := hok562.cur
                    have hwq564 : gJv ty180 x (eeRk (ewS ec79) eeN lw cf p fr tt sg (k + 1)).2.1 (eeRk (ewS ec79) eeN lw cf p fr tt sg (k + 1)).2.2.1 h543 := by rw [hR]; exact pr547
                    refine gy_s 2 (pc' := 19) (L' := [some (.ref x), some (.int (zi p)), some (.int (zi zq1)), some (.int (zi rn2)), some (.int ((zi k) + zi 1)), some (.int (zi z152)), some (.int (zi (zq154 / 2 ^ (lw).toNat)))]) (S' := []) (L2 := [some (.ref x), some (.int (zi p)), some (.int (zi zq1)), some (.int (zi rn2)), some (.int (zi (k + 1))), some (.int (zi z152)), some (.int (zi (zq154 / 2 ^ (lw).toNat)))]) (S2 := []) rfl (by simp only [zi_add, zi_sub, zi_mul, zi_neg, zi_and1, zi_and7, zi_and15, zi_and31, zi_and255]) (by simp only [zi_add, zi_sub, zi_mul, zi_neg, zi_and1, zi_and7, zi_and15, zi_and31, zi_and255]) ?_
                    have k565 := sh543.2.1
                    have k565b := sh543.2.2.1
                    have hl566 : h543.2.2.2.1 bv2 = h179.2.2.2.1 bv2 := congrFun sh543.2.2.2.2.1 bv2
                    have hl567 : 1024 ≤ h543.2.2.2.1 bv2 ∧ h543.2.2.2.1 bv2 ≤ 1000000 := gJ.rowl (G := gGG) sh543.1 lp173r1 rfl
                    have G568 : gSg [114] [] [56000, 56001, 56002, 56003, 71013, 71014, 114999] ty h ty180 h543 := gSg.ss lp173G sh543 (by decide)
                    exact gz_wk (ihlp29 ty180 h543 bv2 rn2 (k + 1) cv2 uv2 hv2 (wv2 + 1) (gms lp29m (by omega) (by omega)) G568 lp173u lp173c0 lp173c1 s558 lp173r1 ⟨by omega, by omega⟩ ⟨by omega, by omega⟩ ⟨by omega, by omega⟩ ⟨by omega, by omega⟩ ⟨by omega, by omega⟩ ⟨by omega, by omega⟩ (Int.le_antisymm (by omega) (by omega)) (Int.le_antisymm (by omega) (by omega)) (by omega) (by omega) (by omega) (Int.le_antisymm (by omega) (by omega)) (Int.le_antisymm (by omega) (by omega)) (Int.le_antisymm (by omega) (by omega)) (by omega) (by omega) (by omega) (by omega) (by omega) (by omega) s548 s549 s550 s551 s552 s553 s555 s556 s557 eh543 pr544 pr545 hsw561 hok562 hwq564) (gLw.s (gLw.s (gLw.s (gLw.s (gLw.s (gLw.n (gLw.n gLw.z)))))))
                · refine gy_icF rfl (by decide) (by decide) (by omega) (by omega) hc375 ?_
                  refine gz_s 3 (pc' := 79) (L' := [some (.ref x), some (.int (zi p)), some (.int (zi zq1)), some (.int (zi rn2)), some (.int (zi k)), some (.int (zi z152)), some (.int (zi (zq154 / 2 ^ (lw).toNat)))]) (S' := [.int (zi 240), .int (zi 1), .ref x]) rfl ?_
                  have hl569 : h179.2.2.2.1 bv2 = h179.2.2.2.1 bv2 := congrFun sh179.2.2.2.2.1 bv2
                  refine gz_call rfl (by decide) rfl (by decide) (by decide) (gcal_of rfl rfl rfl (Nat.le_of_ble_eq_true rfl) (gJ.recv (G := gGG) sh179.1 lp173c0 rfl rfl)) (cw_putSymbol1 _ sh179.1 x lp173c0 1 ⟨by omega, by omega⟩ 240 ⟨by omega, by omega⟩ sk lp173k0 lp173c1 bv2 lp173r0 lp173r1 cv2 lp173k7 ⟨by omega, by omega⟩ uv2 lp173k8 ⟨by omega, by omega⟩ hv2 lp173k9 ⟨by omega, by omega⟩ cg lp173k1 ⟨by omega, by omega⟩ ew.2.2.2 ec79 (Int.le_antisymm (by omega) (by omega)) (Int.le_antisymm (by omega) (by omega)) (Int.le_antisymm (by omega) (by omega)) (by omega) (by omega) lp173u lp173k13 lp173k14 lp173k11) (fun q570 _ wq570 => ?_)
                  obtain ⟨pq570, oq570, hq570⟩ := q570
                  obtain ⟨tyq570, xq570, cq570_0, ttq570, fq570_0, fq570_1, fq570_2, ecq570_0, tcq570_0, gq570, efq570_0, afq570_0, bfq570_0, efq570_1, afq570_1, bfq570_1, efq570_2, afq570_2, bfq570_2, uq570_0, uq570_1, uq570_2, uq570_3, uq570_4, uq570_5, uq570_6, uq570_7, uq570_8, yq570_0, yq570_1⟩ := wq570
                  dsimp only at uq570_5 uq570_6 uq570_7 uq570_8
                  refine ⟨_, gq570, ?_⟩
                  show gz gPP gGG gcn _ _ 82 [some (.ref x), some (.int (zi p)), some (.int (zi zq1)), some (.int (zi rn2)), some (.int (zi k)), some (.int (zi z152)), some (.int (zi (zq154 / 2 ^ (lw).toNat)))] [] hq570 _
                  have G571 : gSg [114] [] [56000, 56001, 56002, 56003, 71013, 71014, 114999] ty h tyq570 hq570 := gSg.tr (gSg.ss lp173G sh179 (by decide)) xq570 (by decide) (by decide) (fun x hx => by cases hx)
                  have t572 : tyq570 x = 71 := gSg.typ xq570 sh179.1 lp173c0 rfl
                  have t573 : tyq570 sk = 56 := gSg.typ xq570 sh179.1 lp173c1 rfl
                  have t574 : tyq570 c150 = 73 := gSg.typ xq570 sh179.1 lp173c2 rfl
                  have t575 : tyq570 bv2 = 114 := gSg.typ xq570 sh179.1 lp173r1 rfl
                  have hl576 : hq570.2.2.2.1 bv2 = h179.2.2.2.1 bv2 := gSg.len xq570 sh179.1 lp173r1 rfl
                  have s577 := gSg.at xq570 sh179.1 lp173c0 rfl (by decide) lp173k0
                  have s578 := gSg.at xq570 sh179.1 lp173c0 rfl (by decide) lp173k1
                  have s579 := gSg.at xq570 sh179.1 lp173c0 rfl (by decide) lp173k2
                  have s580 := gSg.at xq570 sh179.1 lp173c0 rfl (by decide) lp173k3
                  have s581 := gSg.at xq570 sh179.1 lp173c0 rfl (by decide) lp173k4
                  have s582 := gSg.at xq570 sh179.1 lp173c0 rfl (by decide) lp173k5
                  have s583 := gSg.at xq570 sh179.1 lp173c0 rfl (by decide) lp173k6
                  have s584 := gSg.at xq570 sh179.1 lp173c0 rfl (by decide) lp173k10
                  have pr585 := gTab.gr xq570 sh179.1 rfl rfl (fun _ => rfl) (fun _ => rfl) (by decide) (by decide) (by decide) (by decide) lp173k11
                  have pr586 := gRn.gr xq570 sh179.1 rfl (by decide) (by decide) lp173k12
                  have pr587 := gJv.gr xq570 sh179.1 (by decide) lp173k15
                  have uq588 := gSg.uq xq570 lp173u (by decide)
                  have sS589 : gSs rT 1027 tyq570 [56000, 56001, 56002, 56003, 71013, 71014, 114999] hq570 hq570 := gSs.rf xq570.1
                  have hwq590e : Int.toNat wv2 = ew.2.2.1 := (congrArg Int.toNat lp173f9).trans (Int.toNat_natCast _)
                  have hwq590 : gJv tyq570 x ew.2.1 (Int.toNat wv2) hq570 := by rw [hwq590e]; exact pr587
                  refine gz_s 1 (pc' := 83) (L' := [some (.ref x), some (.int (zi p)), some (.int (zi zq1)), some (.int (zi rn2)), some (.int (zi k)), some (.int (zi z152)), some (.int (zi (zq154 / 2 ^ (lw).toNat)))]) (S' := [.ref x]) rfl ?_
                  have hl591 : hq570.2.2.2.1 cq570_0 = hq570.2.2.2.1 cq570_0 := congrFun sS589.2.2.2.2.1 cq570_0
                  refine gz_call rfl (by decide) rfl (by decide) (by decide) (gcal_of rfl rfl rfl (Nat.le_of_ble_eq_true rfl) (gJ.recv (G := gGG) sS589.1 t572 rfl rfl)) (cw_putWaiting _ sS589.1 x t572 sk s577 t573 cq570_0 ecq570_0 tcq570_0 fq570_0 efq570_0 ⟨by omega, by omega⟩ fq570_1 efq570_1 ⟨by omega, by omega⟩ fq570_2 efq570_2 ⟨by omega, by omega⟩ cg s578 ⟨by omega, by omega⟩ wv2 s584 ⟨by omega, by omega⟩ (ewS ec79 240 ew.2.2.2) ew.2.1 (Int.le_antisymm (by omega) (by omega)) (Int.le_antisymm (by omega) (by omega)) (Int.le_antisymm (by omega) (by omega)) (by omega) (by omega) uq588 yq570_0 yq570_1 hwq590) (fun q592 _ wq592 => ?_)
                  obtain ⟨pq592, oq592, hq592⟩ := q592
                  obtain ⟨tyq592, xq592, cq592_0, ttq592, fq592_0, fq592_1, fq592_2, fq592_3, ecq592_0, tcq592_0, gq592, efq592_0, afq592_0, bfq592_0, efq592_1, afq592_1, bfq592_1, efq592_2, afq592_2, bfq592_2, efq592_3, afq592_3, bfq592_3, uq592_0, uq592_1, uq592_2, uq592_3, uq592_4, uq592_5, uq592_6, uq592_7, uq592_8, uq592_9, yq592_0, yq592_1, yq592_2⟩ := wq592
                  dsimp only at uq592_5 uq592_6 uq592_7 uq592_9
                  refine ⟨_, gq592, ?_⟩
                  show gz gPP gGG gcn _ _ 86 [some (.ref x), some (.int (zi p)), some (.int (zi zq1)), some (.int (zi rn2)), some (.int (zi k)), some (.int (zi z152)), some (.int (zi (zq154 / 2 ^ (lw).toNat)))] [] hq592 _
                  have G593 : gSg [114] [] [56000, 56001, 56002, 56003, 71013, 71014, 114999] ty h tyq592 hq592 := gSg.tr (gSg.ss G571 sS589 (by decide)) xq592 (by decide) (by decide) (fun x hx => by cases hx)
                  have t594 : tyq592 x = 71 := gSg.typ xq592 sS589.1 t572 rfl
                  have t595 : tyq592 sk = 56 := gSg.typ xq592 sS589.1 t573 rfl
                  have t596 : tyq592 c150 = 73 := gSg.typ xq592 sS589.1 t574 rfl
                  have t597 : tyq592 bv2 = 114 := gSg.typ xq592 sS589.1 t575 rfl
                  have hl598 : hq592.2.2.2.1 bv2 = hq570.2.2.2.1 bv2 := gSg.len xq592 sS589.1 t575 rfl
                  have t599 : tyq592 cq570_0 = 114 := gSg.typ xq592 sS589.1 tcq570_0 rfl
                  have hl600 : hq592.2.2.2.1 cq570_0 = hq570.2.2.2.1 cq570_0 := gSg.len xq592 sS589.1 tcq570_0 rfl
                  have s601 := gSg.at xq592 sS589.1 t572 rfl (by decide) s577
                  have s602 := gSg.at xq592 sS589.1 t572 rfl (by decide) s578
                  have s603 := gSg.at xq592 sS589.1 t572 rfl (by decide) s579
                  have s604 := gSg.at xq592 sS589.1 t572 rfl (by decide) s580
                  have s605 := gSg.at xq592 sS589.1 t572 rfl (by decide) s581
                  have s606 := gSg.at xq592 sS589.1 t572 rfl (by decide) s582
                  have s607 := gSg.at xq592 sS589.1 t572 rfl (by decide) s583
                  have pr608 := gTab.gr xq592 sS589.1 rfl rfl (fun _ => rfl) (fun _ => rfl) (by decide) (by decide) (by decide) (by decide) pr585
                  have pr609 := gRn.gr xq592 sS589.1 rfl (by decide) (by decide) pr586
                  have pr610 := gJv.gr xq592 sS589.1 (by decide) hwq590
                  have uq611 := gSg.uq xq592 uq588 (by decide)
                  have sS612 : gSs rT 1027 tyq592 [56000, 56001, 56002, 56003, 71013, 71014, 114999] hq592 hq592 := gSs.rf xq592.1
                  have hk613 : eeN ew.2.1 ew.2.2.1 (ewS ec79 240 ew.2.2.2) = eeN ew.2.1 (Int.toNat wv2) (ewS ec79 240 ew.2.2.2) := by rw [hwq590e]
                  have hk613_1 : (eeN ew.2.1 ew.2.2.1 (ewS ec79 240 ew.2.2.2)).1 = (eeN ew.2.1 (Int.toNat wv2) (ewS ec79 240 ew.2.2.2)).1 := by rw [hk613]
                  have hk613_21 : (eeN ew.2.1 ew.2.2.1 (ewS ec79 240 ew.2.2.2)).2.1 = (eeN ew.2.1 (Int.toNat wv2) (ewS ec79 240 ew.2.2.2)).2.1 := by rw [hk613]
                  have hk613_221 : (eeN ew.2.1 ew.2.2.1 (ewS ec79 240 ew.2.2.2)).2.2.1 = (eeN ew.2.1 (Int.toNat wv2) (ewS ec79 240 ew.2.2.2)).2.2.1 := by rw [hk613]
                  have hsw614 : gSW tyq592 cq592_0 (eeN ew.2.1 ew.2.2.1 (ewS ec79 240 ew.2.2.2)) hq592 := by rw [hk613]; exact yq592_0
                  have hok615 : eeOk (eeN ew.2.1 ew.2.2.1 (ewS ec79 240 ew.2.2.2)) := by rw [hk613]; exact yq592_1
                  have hoc616 := hok615.cur
                  have hR : eeWk (ewS ec79) eeN er rn (rn2 + (-16)) = (ew.1 - 16, ew.2.1, 0, eeN ew.2.1 ew.2.2.1 (ewS ec79 240 ew.2.2.2)) := by rw [eeWk_s (by omega) (by omega) (by omega), ← hew]
                  have hR_1 : (eeWk (ewS ec79) eeN er rn (rn2 + (-16))).1 = ew.1 - 16 := by rw [hR]
                  have hR_21 : (eeWk (ewS ec79) eeN er rn (rn2 + (-16))).2.1 = ew.2.1 := by rw [hR]
                  have hR_221 : (eeWk (ewS ec79) eeN er rn (rn2 + (-16))).2.2.1 = 0 := by rw [hR]
                  have hk617 : (eeWk (ewS ec79) eeN er rn (rn2 + (-16))).2.2.2 = eeN ew.2.1 ew.2.2.1 (ewS ec79 240 ew.2.2.2) := by rw [hR]
                  have hk617_1 : ((eeWk (ewS ec79) eeN er rn (rn2 + (-16))).2.2.2).1 = (eeN ew.2.1 ew.2.2.1 (ewS ec79 240 ew.2.2.2)).1 := by rw [hk617]
                  have hk617_21 : ((eeWk (ewS ec79) eeN er rn (rn2 + (-16))).2.2.2).2.1 = (eeN ew.2.1 ew.2.2.1 (ewS ec79 240 ew.2.2.2)).2.1 := by rw [hk617]
                  have hk617_221 : ((eeWk (ewS ec79) eeN er rn (rn2 + (-16))).2.2.2).2.2.1 = (eeN ew.2.1 ew.2.2.1 (ewS ec79 240 ew.2.2.2)).2.2.1 := by rw [hk617]
                  have hsw618 : gSW tyq592 cq592_0 ((eeWk (ewS ec79) eeN er rn (rn2 + (-16))).2.2.2) hq592 := by rw [hk617]; exact hsw614
                  have hok619 : eeOk ((eeWk (ewS ec79) eeN er rn (rn2 + (-16))).2.2.2) := by rw [hk617]; exact hok615
                  have hoc620 := hok619.cur
                  have hwq621 : gJv tyq592 x (eeWk (ewS ec79) eeN er rn (rn2 + (-16))).2.1 (eeWk (ewS ec79) eeN er rn (rn2 + (-16))).2.2.1 hq592 := by rw [hR]; exact yq592_2
                  refine gy_s 2 (pc' := 62) (L' := [some (.ref x), some (.int (zi p)), some (.int (zi zq1)), some (.int ((zi rn2) + zi (-16))), some (.int (zi k)), some (.int (zi z152)), some (.int (zi (zq154 / 2 ^ (lw).toNat)))]) (S' := []) (L2 := [some (.ref x), some (.int (zi p)), some (.int (zi zq1)), some (.int (zi (rn2 + (-16)))), some (.int (zi k)), some (.int (zi z152)), some (.int (zi (zq154 / 2 ^ (lw).toNat)))]) (S2 := []) rfl (by simp only [zi_add, zi_sub, zi_mul, zi_neg, zi_and1, zi_and7, zi_and15, zi_and31, zi_and255]) (by simp only [zi_add, zi_sub, zi_mul, zi_neg, zi_and1, zi_and7, zi_and15, zi_and31, zi_and255]) ?_
                  have hl622 : 1024 ≤ hq592.2.2.2.1 bv2 ∧ hq592.2.2.2.1 bv2 ≤ 1000000 := gJ.rowl (G := gGG) sS612.1 t597 rfl
                  have hl623 : 1024 ≤ hq592.2.2.2.1 cq570_0 ∧ hq592.2.2.2.1 cq570_0 ≤ 1000000 := gJ.rowl (G := gGG) sS612.1 t599 rfl
                  have hl624 : 1024 ≤ hq592.2.2.2.1 cq592_0 ∧ hq592.2.2.2.1 cq592_0 ≤ 1000000 := gJ.rowl (G := gGG) sS612.1 tcq592_0 rfl
                  have G625 : gSg [114] [] [56000, 56001, 56002, 56003, 71013, 71014, 114999] ty h tyq592 hq592 := gSg.ss G593 sS612 (by decide)
                  exact gz_wk (ihlp173 tyq592 hq592 cq592_0 (rn2 + (-16)) fq592_0 fq592_1 fq592_2 fq592_3 (gms lp173m (by omega) (by omega)) G625 uq611 t594 t595 t596 ecq592_0 tcq592_0 ⟨by omega, by omega⟩ ⟨by omega, by omega⟩ ⟨by omega, by omega⟩ ⟨by omega, by omega⟩ ⟨by omega, by omega⟩ (by omega) (Int.le_antisymm (by omega) (by omega)) (by omega) (Int.le_antisymm (by omega) (by omega)) (Int.le_antisymm (by omega) (by omega)) (by omega) (Int.le_antisymm (by omega) (by omega)) (Int.le_antisymm (by omega) (by omega)) (Int.le_antisymm (by omega) (by omega)) (by omega) (by omega) (by omega) (by omega) (by omega) (by omega) s601 s602 s603 s604 s605 s606 s607 efq592_0 efq592_1 efq592_2 efq592_3 pr608 pr609 hsw618 hok619 hwq621) (gLw.s (gLw.s (gLw.s (gLw.s (gLw.s (gLw.s (gLw.s gLw.z)))))))
          have hw00 : (eeWk (ewS ec79) eeN er rn rn).1 = er.1 := by rw [eeWk_0]
          have hw01 : (eeWk (ewS ec79) eeN er rn rn).2.2.1 = er.2.2.1 := by rw [eeWk_0]
          have k626 := sq154.2.1
          have k626b := sq154.2.2.1
          have hl627 : hq154.2.2.2.1 bv = h35.2.2.2.1 bv := congrFun sq154.2.2.2.2.1 bv
          have hl628 : 1024 ≤ hq154.2.2.2.1 bv ∧ hq154.2.2.2.1 bv ≤ 1000000 := gJ.rowl (G := gGG) sq154.1 lp29r1 rfl
          have G629 : gSg [114] [] [56000, 56001, 56002, 56003, 71013, 71014, 114999] ty h ty36 hq154 := gSg.ss lp29G sq154 (by decide)
          exact gz_wk (lp173 _ ty36 hq154 bv rn cv uv hv wv (Nat.lt_succ_self _) G629 lp29u lp29c0 lp29c1 tc150 s165 lp29r1 ⟨by omega, by omega⟩ ⟨by omega, by omega⟩ ⟨by omega, by omega⟩ ⟨by omega, by omega⟩ ⟨by omega, by omega⟩ (by omega) (Int.le_antisymm (by omega) (by omega)) (by omega) (Int.le_antisymm (by omega) (by omega)) (Int.le_antisymm (by omega) (by omega)) (by omega) (Int.le_antisymm (by omega) (by omega)) (Int.le_antisymm (by omega) (by omega)) (Int.le_antisymm (by omega) (by omega)) (by omega) (by omega) (by omega) (by omega) (by omega) (by omega) s155 s156 s157 s158 s159 s160 s166 s161 s162 s163 s164 pr167 pr168 hsw175 hok176 hwq178) (gLw.s (gLw.s (gLw.s (gLw.s (gLw.s (gLw.s (gLw.s gLw.z)))))))
        · refine gy_ifF rfl (by decide) (by decide) (by omega) hc172 ?_
          refine gy_s 2 (pc' := 161) (L' := [some (.ref x), some (.int (zi p)), some (.int (zi zq1)), some (.int ((zi rn) + zi 1)), some (.int (zi k)), some (.int (zi z152)), some (.int (zi (zq154 / 2 ^ (lw).toNat)))]) (S' := []) (L2 := [some (.ref x), some (.int (zi p)), some (.int (zi zq1)), some (.int (zi (rn + 1))), some (.int (zi k)), some (.int (zi z152)), some (.int (zi (zq154 / 2 ^ (lw).toNat)))]) (S2 := []) rfl (by simp only [zi_add, zi_sub, zi_mul, zi_neg, zi_and1, zi_and7, zi_and15, zi_and31, zi_and255]) (by simp only [zi_add, zi_sub, zi_mul, zi_neg, zi_and1, zi_and7, zi_and15, zi_and31, zi_and255]) ?_
          have hR : eeRk (ewS ec79) eeN lw cf p fr tt sg (k + 1) = (rn + 1, er.2.1, er.2.2.1, er.2.2.2) := by rw [eeRk_z (by omega) (by omega) (by omega) hcf (by rw [← hA]; omega), ← her]; rw [← lp29f6]
          have hR_1 : (eeRk (ewS ec79) eeN lw cf p fr tt sg (k + 1)).1 = rn + 1 := by rw [hR]
          have hR_21 : (eeRk (ewS ec79) eeN lw cf p fr tt sg (k + 1)).2.1 = er.2.1 := by rw [hR]
          have hR_221 : (eeRk (ewS ec79) eeN lw cf p fr tt sg (k + 1)).2.2.1 = er.2.2.1 := by rw [hR]
          have hk630 : (eeRk (ewS ec79) eeN lw cf p fr tt sg (k + 1)).2.2.2 = er.2.2.2 := by rw [hR]
          have hk630_1 : ((eeRk (ewS ec79) eeN lw cf p fr tt sg (k + 1)).2.2.2).1 = (er.2.2.2).1 := by rw [hk630]
          have hk630_21 : ((eeRk (ewS ec79) eeN lw cf p fr tt sg (k + 1)).2.2.2).2.1 = (er.2.2.2).2.1 := by rw [hk630]
          have hk630_221 : ((eeRk (ewS ec79) eeN lw cf p fr tt sg (k + 1)).2.2.2).2.2.1 = (er.2.2.2).2.2.1 := by rw [hk630]
          have hsw631 : gSW ty36 bv ((eeRk (ewS ec79) eeN lw cf p fr tt sg (k + 1)).2.2.2) hq154 := by rw [hk630]; exact pr169
          have hok632 : eeOk ((eeRk (ewS ec79) eeN lw cf p fr tt sg (k + 1)).2.2.2) := by rw [hk630]; exact lp29k13
          have hoc633 := hok632.cur
          have hwq634 : gJv ty36 x (eeRk (ewS ec79) eeN lw cf p fr tt sg (k + 1)).2.1 (eeRk (ewS ec79) eeN lw cf p fr tt sg (k + 1)).2.2.1 hq154 := by rw [hR]; exact pr170
          refine gy_s 2 (pc' := 19) (L' := [some (.ref x), some (.int (zi p)), some (.int (zi zq1)), some (.int (zi (rn + 1))), some (.int ((zi k) + zi 1)), some (.int (zi z152)), some (.int (zi (zq154 / 2 ^ (lw).toNat)))]) (S' := []) (L2 := [some (.ref x), some (.int (zi p)), some (.int (zi zq1)), some (.int (zi (rn + 1))), some (.int (zi (k + 1))), some (.int (zi z152)), some (.int (zi (zq154 / 2 ^ (lw).toNat)))]) (S2 := []) rfl (by simp only [zi_add, zi_sub, zi_mul, zi_neg, zi_and1, zi_and7, zi_and15, zi_and31, zi_and255]) (by simp only [zi_add, zi_sub, zi_mul, zi_neg, zi_and1, zi_and7, zi_and15, zi_and31, zi_and255]) ?_
          have k635 := sq154.2.1
          have k635b := sq154.2.2.1
          have hl636 : hq154.2.2.2.1 bv = h35.2.2.2.1 bv := congrFun sq154.2.2.2.2.1 bv
          have hl637 : 1024 ≤ hq154.2.2.2.1 bv ∧ hq154.2.2.2.1 bv ≤ 1000000 := gJ.rowl (G := gGG) sq154.1 lp29r1 rfl
          have G638 : gSg [114] [] [56000, 56001, 56002, 56003, 71013, 71014, 114999] ty h ty36 hq154 := gSg.ss lp29G sq154 (by decide)
          exact gz_wk (ihlp29 ty36 hq154 bv (rn + 1) (k + 1) cv uv hv wv (gms lp29m (by omega) (by omega)) G638 lp29u lp29c0 lp29c1 s165 lp29r1 ⟨by omega, by omega⟩ ⟨by omega, by omega⟩ ⟨by omega, by omega⟩ ⟨by omega, by omega⟩ ⟨by omega, by omega⟩ ⟨by omega, by omega⟩ (Int.le_antisymm (by omega) (by omega)) (Int.le_antisymm (by omega) (by omega)) (by omega) (by omega) (by omega) (Int.le_antisymm (by omega) (by omega)) (Int.le_antisymm (by omega) (by omega)) (Int.le_antisymm (by omega) (by omega)) (by omega) (by omega) (by omega) (by omega) (by omega) (by omega) s155 s156 s157 s158 s159 s160 s161 s162 s163 s164 pr167 pr168 hsw631 hok632 hwq634) (gLw.s (gLw.s (gLw.s (gLw.s (gLw.s (gLw.n (gLw.n gLw.z)))))))
  have hk00 : (eeRk (ewS ec79) eeN lw cf p fr tt sg fr).1 = 0 := by rw [eeRk_0]
  have hk01 : (eeRk (ewS ec79) eeN lw cf p fr tt sg fr).2.2.1 = 0 := by rw [eeRk_0]
  have k639 := sh15.2.1
  have k639b := sh15.2.2.1
  have hl640 : h15.2.2.2.1 bt = h.2.2.2.1 bt := congrFun sh15.2.2.2.2.1 bt
  have hl641 : 1024 ≤ h15.2.2.2.1 bt ∧ h15.2.2.2.1 bt ≤ 1000000 := gJ.rowl (G := gGG) sh15.1 tbt rfl
  have G642 : gSg [114] [] [56000, 56001, 56002, 56003, 71013, 71014, 114999] ty h ty h15 := gSg.ss G0 sh15 (by decide)
  exact gz_wk (lp29 _ ty h15 bt 0 fr c0 u0 h0 0 (Nat.lt_succ_self _) G642 uq tx tsk s20 tbt ⟨by omega, by omega⟩ ⟨by omega, by omega⟩ ⟨by omega, by omega⟩ ⟨by omega, by omega⟩ ⟨by omega, by omega⟩ ⟨by omega, by omega⟩ (Int.le_antisymm (by omega) (by omega)) (Int.le_antisymm (by omega) (by omega)) (by omega) (by omega) (by omega) (Int.le_antisymm (by omega) (by omega)) (Int.le_antisymm (by omega) (by omega)) (Int.le_antisymm (by omega) (by omega)) (by omega) (by omega) (by omega) (by omega) (by omega) (by omega) s19 s24 s25 s26 s27 s28 s21 s22 s23 eh15 pr17 pr18 hsw31 hok32 hwq34) (gLw.s (gLw.s (gLw.s (gLw.s (gLw.s (gLw.n (gLw.n gLw.z)))))))
