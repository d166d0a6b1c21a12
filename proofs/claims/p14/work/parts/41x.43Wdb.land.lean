/-! ===== methods of the landed text (by program) ===== -/
theorem ch_a {a b x z y n : Int} (h : a + x + z ≤ y) (g : b ≤ a + n) : b + x + z ≤ y + n := by omega
theorem ch_c {a b e l m o : Int} (h : 1024 * (a - b) ≤ l - m) (g : 1024 * (e - a) ≤ o - l) : 1024 * (e - b) ≤ o - m := by omega
theorem ch_d {a b e l m o : Int} (h : a - b ≤ 2 * (l - m)) (g : e - a ≤ 2 * (o - l)) : e - b ≤ 2 * (o - m) := by omega
theorem zl_tw {a b c z : Int} (e : zl a = zl b) (f : zl (b + c) = zl z) : zl (a + c) = zl z := by
  rw [← zl_add, e, zl_add]
  exact f
theorem e_hmc {k l ln z y : Int} (h1 : k ≤ ln ↔ k ≤ l) (h2 : z = y ∨ k ≤ l) (h3 : (y - z) % 16 = 0) (h4 : z ≤ 15 ∨ ¬ k ≤ ln) : (k ≤ l ∧ z ≤ 15 ∧ (y - z) % 16 = 0) ∨ (¬ k ≤ l ∧ z = y) := by omega
theorem eeRk_1v {T : Type} {sy : Int → T → T} {pl : Int → Nat → T → T} {lw p fr tt k : Int} {cf : Nat → Int} {t : T} {v a s V x y : Int} {er ew : Int × Int × Nat × T} (her : er = eeRk sy pl lw cf p fr tt t k) (hew : ew = eeWk sy pl er x y) (h0 : 0 ≤ fr) (hp : 0 ≤ p) (hk : fr ≤ k) (e : cf (p + k).toNat = v) (ea : a = eeA v / 2 ^ lw.toNat) (h1 : a = 1) (ex : x = er.1) (hx : 0 ≤ y ∧ y ≤ x) (hm : (k ≤ eeLk lw cf p fr tt ∧ y ≤ 15 ∧ (x - y) % 16 = 0) ∨ (¬ k ≤ eeLk lw cf p fr tt ∧ y = x)) (ey : y = ew.1) (es : s = 16 * (y % 16) + 1) (eV : V = if v < 0 then 0 else 1) : eeRk sy pl lw cf p fr tt t (k + 1) = (0, ew.2.1, 0, pl ew.2.1 ew.2.2.1 (pl V 1 (sy s ew.2.2.2))) := by
  have h := eeRk_1 (sy := sy) (pl := pl) (t := t) h0 hp hk e ea h1 (by rw [← her]; exact ex) hx hm (by rw [← her, ← hew]; exact ey) es eV
  rw [← her, ← hew] at h
  exact h
set_option maxRecDepth 20000 in
set_option maxHeartbeats 4000000 in
theorem cw_refineOthers (d : Nat) {ty : Nat → Nat} {h : gH} (hJ : gJ rT 1027 ty h) (x : Nat) (tx : ty x = 71) (p : Int) (rp : 0 ≤ p ∧ p ≤ 960) (sk : Nat) (esk : h.2.2.2.2 x 0 = .ref sk) (tsk : ty sk = 56) (bt : Nat) (ebt : h.2.2.2.2 sk 0 = .ref bt) (tbt : ty bt = 114) (c0 : Int) (ec0 : h.2.2.2.2 sk 1 = .int (zi c0)) (rc0 : 0 ≤ c0 ∧ c0 ≤ 499999) (u0 : Int) (eu0 : h.2.2.2.2 sk 2 = .int (zi u0)) (ru0 : 0 ≤ u0 ∧ u0 ≤ 127) (h0 : Int) (eh0 : h.2.2.2.2 sk 3 = .int (zi h0)) (rh0 : 0 ≤ h0 ∧ h0 ≤ 7) (cg : Int) (ecg : h.2.2.2.2 x 11 = .int (zi cg)) (rcg : 0 ≤ cg ∧ cg ≤ 0) (fr : Int) (efr : h.2.2.2.2 x 7 = .int (zi fr)) (rfr : 0 ≤ fr ∧ fr ≤ 63) (tt : Int) (ett : h.2.2.2.2 x 8 = .int (zi tt)) (rtt : 0 ≤ tt ∧ tt ≤ 63) (lw : Int) (elw : h.2.2.2.2 x 10 = .int (zi lw)) (rlw : 0 ≤ lw ∧ lw ≤ 3) (bs : Int) (ebs : h.2.2.2.2 x 5 = .int (zi bs)) (rbs : 0 ≤ bs ∧ bs ≤ 16) (cf : Nat → Int) (sg : gWt) (ec79 : Nat → Int × Int) (pp0 : c0 = sg.1) (pp1 : u0 = sg.2.1) (pp2 : h0 = sg.2.2.1) (pp3 : 4 * c0 + h0 + 320 * (tt - fr + 3) ≤ 1999990) (pp4 : p + 64 ≤ 64 * bs) (pp5 : fr ≤ tt) (pp6 : c0 ≤ (h.2.2.2.1 bt : Int)) (uq : gUq ty) (hysw : gSW ty bt sg h) (hyok : eeOk sg) (hytb79 : gTab (True) ty 78 79 ec79 h) (hyf73 : gRn (64 * bs).toNat ty 73 cf h) : gz gPP gGG gcn (d + 5) gt117 0 (gent [.ref x, .int (zi p)] 7) [] h (fun q _ => ∃ ty9 : Nat → Nat, gSg [114] [] [56000, 56001, 56002, 56003, 71013, 71014, 114999] ty h ty9 q.2.2 ∧ ∃ bt2 : Nat, True ∧ ∃ c1 u1 h1 : Int, q.2.2.2.2.2.2 sk 0 = .ref bt2 ∧ ty9 bt2 = 114 ∧ gfin gt117 q.1 q.2.1 = some none ∧ q.2.2.2.2.2.2 sk 1 = .int (zi c1) ∧ 0 ≤ c1 ∧ c1 ≤ 500000 ∧ q.2.2.2.2.2.2 sk 2 = .int (zi u1) ∧ 0 ≤ u1 ∧ u1 ≤ 127 ∧ q.2.2.2.2.2.2 sk 3 = .int (zi h1) ∧ 0 ≤ h1 ∧ h1 ≤ 7 ∧ (c1 = (eeRz (ewS ec79) eeN lw cf p fr tt sg).1) ∧ (u1 = (eeRz (ewS ec79) eeN lw cf p fr tt sg).2.1) ∧ (h1 = (eeRz (ewS ec79) eeN lw cf p fr tt sg).2.2.1) ∧ (4 * c1 + h1 ≤ 4 * c0 + h0 + 320 * (tt - fr + 1)) ∧ (c0 ≤ c1) ∧ (1024 * ((q.2.2.1 : Int) - h.1) ≤ (q.2.2.2.2.2.1 bt2 : Int) - h.2.2.2.1 bt) ∧ (((q.2.2.2.1 : Int) - h.2.1) ≤ 2 * ((q.2.2.2.2.2.1 bt2 : Int) - h.2.2.2.1 bt)) ∧ ((h.2.2.2.1 bt : Int) ≤ (q.2.2.2.2.2.1 bt2 : Int)) ∧ (c1 ≤ (q.2.2.2.2.2.1 bt2 : Int)) ∧ (gSW ty9 bt2 (eeRz (ewS ec79) eeN lw cf p fr tt sg) q.2.2) ∧ (eeOk (eeRz (ewS ec79) eeN lw cf p fr tt sg))) := by
  have hS : gSs rT 1027 ty [56000, 56001, 56002, 56003, 71013, 71014, 114999] h h := gSs.rf hJ
  have G0 : gSg [114] [] [56000, 56001, 56002, 56003, 71013, 71014, 114999] ty h ty h := gSg.rf hJ (fun x hx => by cases hx)
  refine gz_s 2 (pc' := 2) (L' := [some (.ref x), some (.int (zi p)), none, none, none, none, none]) (S' := [.int (zi p), .ref x]) rfl ?_
  refine gz_call rfl (by decide) rfl (by decide) (by decide) (gcal_of rfl rfl rfl (Nat.le_of_ble_eq_true rfl) (gJ.recv (G := gGG) hS.1 tx rfl rfl)) (cw_lastNew _ hS.1 x tx p rp fr efr rfr tt ett rtt lw elw rlw bs ebs rbs cf (by omega) (by omega) uq hyf73) (fun q1 _ wq1 => ?_)
  obtain ⟨pq1, oq1, hq1⟩ := q1
  obtain ⟨xq1, zq1, gq1, aq1, bq1, uq1_0⟩ := wq1
  refine ⟨_, gq1, ?_⟩
  show gz gPP gGG gcn _ _ 5 [some (.ref x), some (.int (zi p)), none, none, none, none, none] [.int (zi zq1)] hq1 _
  have sq1 : gSs rT 1027 ty [56000, 56001, 56002, 56003, 71013, 71014, 114999] h hq1 := gSs.tr hS xq1 (by decide)
  have s2 := (xq1.2.2.2.2.2 x 0 (by rw [tx]; decide)).trans esk
  have s3 := (xq1.2.2.2.2.2 sk 0 (by rw [tsk]; decide)).trans ebt
  have s4 := (xq1.2.2.2.2.2 sk 1 (by rw [tsk]; decide)).trans ec0
  have s5 := (xq1.2.2.2.2.2 sk 2 (by rw [tsk]; decide)).trans eu0
  have s6 := (xq1.2.2.2.2.2 sk 3 (by rw [tsk]; decide)).trans eh0
  have s7 := (xq1.2.2.2.2.2 x 11 (by rw [tx]; decide)).trans ecg
  have s8 := (xq1.2.2.2.2.2 x 7 (by rw [tx]; decide)).trans efr
  have s9 := (xq1.2.2.2.2.2 x 8 (by rw [tx]; decide)).trans ett
  have s10 := (xq1.2.2.2.2.2 x 10 (by rw [tx]; decide)).trans elw
  have s11 := (xq1.2.2.2.2.2 x 5 (by rw [tx]; decide)).trans ebs
  have pr12 := gSW.fr xq1.2 (by decide) hysw
  have pr13 := gTab.fr xq1.2 (fun _ => rfl) (fun _ => rfl) (by decide) (by decide) hytb79
  have pr14 := gRn.fr xq1.2 (by decide) hyf73
  have hlk9 : zq1 = eeLk lw cf p fr tt := uq1_0
  refine gz_s 5 (pc' := 10) (L' := [some (.ref x), some (.int (zi p)), some (.int (zi zq1)), some (.int (zi 0)), none, none, none]) (S' := [.int (zi 0), .ref x]) rfl ?_
  refine gs_put rfl (by decide) rfl sq1 tx rfl rfl rfl rfl (Or.inl rfl) (by decide) (by omega) (by omega) (fun h15 sh15 eh15 fh15 => ?_)
  have pr16 := gSW.pt fh15 tx (by decide) pr12
  have pr17 := gTab.pt fh15 tx (by decide) (by decide) pr13
  have pr18 := gRn.pt fh15 tx (by decide) pr14
  have s19 := (fh15 x 0 (fun q => absurd q.2 (by decide))).trans s2
  have s20 := (fh15 sk 0 (fun q => absurd q.2 (by decide))).trans s3
  have s21 := (fh15 sk 1 (fun q => absurd q.2 (by decide))).trans s4
  have s22 := (fh15 sk 2 (fun q => absurd q.2 (by decide))).trans s5
  have s23 := (fh15 sk 3 (fun q => absurd q.2 (by decide))).trans s6
  have s24 := (fh15 x 11 (fun q => absurd q.2 (by decide))).trans s7
  have s25 := (fh15 x 7 (fun q => absurd q.2 (by decide))).trans s8
  have s26 := (fh15 x 8 (fun q => absurd q.2 (by decide))).trans s9
  have s27 := (fh15 x 10 (fun q => absurd q.2 (by decide))).trans s10
  have s28 := (fh15 x 5 (fun q => absurd q.2 (by decide))).trans s11
  refine gz_s 1 (pc' := 14) (L' := [some (.ref x), some (.int (zi p)), some (.int (zi zq1)), some (.int (zi 0)), none, none, none]) (S' := [.ref x]) rfl ?_
  refine gs_gtk rfl (by decide) rfl sh15.1 tx rfl rfl s25 ?_
  refine gz_s 1 (pc' := 19) (L' := [some (.ref x), some (.int (zi p)), some (.int (zi zq1)), some (.int (zi 0)), some (.int (zi fr)), none, none]) (S' := []) rfl ?_
  have hk30 : (eeRk (ewS ec79) eeN lw cf p fr tt sg fr).2.2.2 = sg := by rw [eeRk_0]
  have hk30_1 : ((eeRk (ewS ec79) eeN lw cf p fr tt sg fr).2.2.2).1 = (sg).1 := by rw [hk30]
  have hk30_21 : ((eeRk (ewS ec79) eeN lw cf p fr tt sg fr).2.2.2).2.1 = (sg).2.1 := by rw [hk30]
  have hk30_221 : ((eeRk (ewS ec79) eeN lw cf p fr tt sg fr).2.2.2).2.2.1 = (sg).2.2.1 := by rw [hk30]
  have hsw31 : gSW ty bt ((eeRk (ewS ec79) eeN lw cf p fr tt sg fr).2.2.2) h15 := by rw [hk30]; exact pr16
  have hok32 : eeOk ((eeRk (ewS ec79) eeN lw cf p fr tt sg fr).2.2.2) := by rw [hk30]; exact hyok
  have hoc33 := hok32.cur
  have hwq34 : gJv ty x (eeRk (ewS ec79) eeN lw cf p fr tt sg fr).2.1 (eeRk (ewS ec79) eeN lw cf p fr tt sg fr).2.2.1 h15 := by rw [eeRk_0]; exact gJv.start sh15.1 tx
  have lp29 : ∀ (fu : Nat) (ty36 : Nat → Nat) (h35 : gH) (bv : Nat) (rn : Int) (k : Int) (cv : Int) (uv : Int) (hv : Int) (wv : Int), (65 - k).toNat < fu → gSg [114] [] [56000, 56001, 56002, 56003, 71013, 71014, 114999] ty h ty36 h35 → gUq ty36 → ty36 x = 71 → ty36 sk = 56 → h35.2.2.2.2 sk 0 = .ref bv → ty36 bv = 114 → (0 ≤ rn ∧ rn ≤ 64) → (0 ≤ k ∧ k ≤ 64) → (0 ≤ cv ∧ cv ≤ 499999) → (0 ≤ uv ∧ uv ≤ 127) → (0 ≤ hv ∧ hv ≤ 7) → (0 ≤ wv ∧ wv ≤ 64) → (rn = (eeRk (ewS ec79) eeN lw cf p fr tt sg k).1) → (wv = (((eeRk (ewS ec79) eeN lw cf p fr tt sg k).2.2.1 : Nat) : Int)) → (fr ≤ k) → (k ≤ tt + 1) → (rn + wv ≤ k - fr) → (cv = ((eeRk (ewS ec79) eeN lw cf p fr tt sg k).2.2.2).1) → (uv = ((eeRk (ewS ec79) eeN lw cf p fr tt sg k).2.2.2).2.1) → (hv = ((eeRk (ewS ec79) eeN lw cf p fr tt sg k).2.2.2).2.2.1) → (4 * cv + hv + 320 * rn + 310 * wv ≤ 4 * c0 + h0 + 320 * (k - fr)) → (c0 ≤ cv) → (1024 * ((h35.1 : Int) - h.1) ≤ (h35.2.2.2.1 bv : Int) - h.2.2.2.1 bt) → (((h35.2.1 : Int) - h.2.1) ≤ 2 * ((h35.2.2.2.1 bv : Int) - h.2.2.2.1 bt)) → ((h.2.2.2.1 bt : Int) ≤ (h35.2.2.2.1 bv : Int)) → (cv ≤ (h35.2.2.2.1 bv : Int)) → h35.2.2.2.2 x 0 = .ref sk → h35.2.2.2.2 x 11 = .int (zi cg) → h35.2.2.2.2 x 7 = .int (zi fr) → h35.2.2.2.2 x 8 = .int (zi tt) → h35.2.2.2.2 x 10 = .int (zi lw) → h35.2.2.2.2 x 5 = .int (zi bs) → h35.2.2.2.2 sk 1 = .int (zi cv) → h35.2.2.2.2 sk 2 = .int (zi uv) → h35.2.2.2.2 sk 3 = .int (zi hv) → h35.2.2.2.2 x 14 = .int (zi wv) → gTab (True) ty36 78 79 ec79 h35 → gRn (64 * bs).toNat ty36 73 cf h35 → gSW ty36 bv ((eeRk (ewS ec79) eeN lw cf p fr tt sg k).2.2.2) h35 → eeOk ((eeRk (ewS ec79) eeN lw cf p fr tt sg k).2.2.2) → gJv ty36 x ((eeRk (ewS ec79) eeN lw cf p fr tt sg k).2.1) ((eeRk (ewS ec79) eeN lw cf p fr tt sg k).2.2.1) h35 → gz gPP gGG gcn (d + 5) gt117 19 [some (.ref x), some (.int (zi p)), some (.int (zi zq1)), some (.int (zi rn)), some (.int (zi k)), none, none] [] h35 (fun q _ => ∃ ty9 : Nat → Nat, gSg [114] [] [56000, 56001, 56002, 56003, 71013, 71014, 114999] ty h ty9 q.2.2 ∧ ∃ bt2 : Nat, True ∧ ∃ c1 u1 h1 : Int, q.2.2.2.2.2.2 sk 0 = .ref bt2 ∧ ty9 bt2 = 114 ∧ gfin gt117 q.1 q.2.1 = some none ∧ q.2.2.2.2.2.2 sk 1 = .int (zi c1) ∧ 0 ≤ c1 ∧ c1 ≤ 500000 ∧ q.2.2.2.2.2.2 sk 2 = .int (zi u1) ∧ 0 ≤ u1 ∧ u1 ≤ 127 ∧ q.2.2.2.2.2.2 sk 3 = .int (zi h1) ∧ 0 ≤ h1 ∧ h1 ≤ 7 ∧ (c1 = (eeRz (ewS ec79) eeN lw cf p fr tt sg).1) ∧ (u1 = (eeRz (ewS ec79) eeN lw cf p fr tt sg).2.1) ∧ (h1 = (eeRz (ewS ec79) eeN lw cf p fr tt sg).2.2.1) ∧ (4 * c1 + h1 ≤ 4 * c0 + h0 + 320 * (tt - fr + 1)) ∧ (c0 ≤ c1) ∧ (1024 * ((q.2.2.1 : Int) - h.1) ≤ (q.2.2.2.2.2.1 bt2 : Int) - h.2.2.2.1 bt) ∧ (((q.2.2.2.1 : Int) - h.2.1) ≤ 2 * ((q.2.2.2.2.2.1 bt2 : Int) - h.2.2.2.1 bt)) ∧ ((h.2.2.2.1 bt : Int) ≤ (q.2.2.2.2.2.1 bt2 : Int)) ∧ (c1 ≤ (q.2.2.2.2.2.1 bt2 : Int)) ∧ (gSW ty9 bt2 (eeRz (ewS ec79) eeN lw cf p fr tt sg) q.2.2) ∧ (eeOk (eeRz (ewS ec79) eeN lw cf p fr tt sg))) := by
    intro fu
    induction fu with
    | zero => intro ty36 h35 bv rn k cv uv hv wv hm; exact absurd hm (Nat.not_lt_zero _)
    | succ fu ihlp29 =>
      intro ty36 h35 bv rn k cv uv hv wv lp29m lp29G lp29u lp29c0 lp29c1 lp29r0 lp29r1 lp29f0 lp29f1 lp29f2 lp29f3 lp29f4 lp29f5 lp29f6 lp29f7 lp29f8 lp29f9 lp29f10 lp29f11 lp29f12 lp29f13 lp29f14 lp29f15 lp29f16 lp29f17 lp29f18 lp29f19 lp29k0 lp29k1 lp29k2 lp29k3 lp29k4 lp29k5 lp29k6 lp29k7 lp29k8 lp29k9 lp29k10 lp29k11 lp29k12 lp29k13 lp29k14
      have sh35 : gSs rT 1027 ty36 [56000, 56001, 56002, 56003, 71013, 71014, 114999] h35 h35 := gSs.rf lp29G.1
      obtain ⟨er, her⟩ : ∃ x9 : Int × Int × Nat × gWt, x9 = eeRk (ewS ec79) eeN lw cf p fr tt sg k := ⟨_, rfl⟩
      rw [← her] at lp29f6 lp29f7 lp29f11 lp29f12 lp29f13 lp29k12 lp29k13 lp29k14
      clear hk30_1 hk30_21 hk30_221 hoc33
      refine gz_s 2 (pc' := 22) (L' := [some (.ref x), some (.int (zi p)), some (.int (zi zq1)), some (.int (zi rn)), some (.int (zi k)), none, none]) (S' := [.ref x, .int (zi k)]) rfl ?_
      refine gs_gtk rfl (by decide) rfl sh35.1 lp29c0 rfl rfl lp29k3 ?_
      by_cases hc37 : (tt : Int) < k
      · refine gy_icT (pc' := 167) rfl (by decide) (by decide) (by omega) (by omega) hc37 ?_
        refine gz_s 1 (pc' := 168) (L' := [some (.ref x), some (.int (zi p)), some (.int (zi zq1)), some (.int (zi rn)), some (.int (zi k)), none, none]) (S' := [.int (zi rn)]) rfl ?_
        by_cases hc38 : (0 : Int) < rn
        · refine gy_ifT (pc' := 178) rfl (by decide) (by decide) (by omega) hc38 ?_
          refine gz_s 3 (pc' := 181) (L' := [some (.ref x), some (.int (zi p)), some (.int (zi zq1)), some (.int (zi rn)), some (.int (zi k)), none, none]) (S' := [.int (zi 0), .int (zi 1), .ref x]) rfl ?_
          have hl39 : h35.2.2.2.1 bv = h35.2.2.2.1 bv := congrFun sh35.2.2.2.2.1 bv
          refine gz_call rfl (by decide) rfl (by decide) (by decide) (gcal_of rfl rfl rfl (Nat.le_of_ble_eq_true rfl) (gJ.recv (G := gGG) sh35.1 lp29c0 rfl rfl)) (cw_putSymbol1 _ sh35.1 x lp29c0 1 ⟨by omega, by omega⟩ 0 ⟨by omega, by omega⟩ sk lp29k0 lp29c1 bv lp29r0 lp29r1 cv lp29k6 lp29f2 uv lp29k7 lp29f3 hv lp29k8 lp29f4 cg lp29k1 rcg er.2.2.2 ec79 (Int.le_antisymm (by omega) (by omega)) (Int.le_antisymm (by omega) (by omega)) (Int.le_antisymm (by omega) (by omega)) (by omega) (by omega) lp29u lp29k12 lp29k13 lp29k10) (fun q40 _ wq40 => ?_)
          obtain ⟨pq40, oq40, hq40⟩ := q40
          obtain ⟨tyq40, xq40, cq40_0, ttq40, fq40_0, fq40_1, fq40_2, ecq40_0, tcq40_0, gq40, efq40_0, afq40_0, bfq40_0, efq40_1, afq40_1, bfq40_1, efq40_2, afq40_2, bfq40_2, uq40_0, uq40_1, uq40_2, uq40_3, uq40_4, uq40_5, uq40_6, uq40_7, uq40_8, yq40_0, yq40_1⟩ := wq40
          dsimp only at uq40_5 uq40_6 uq40_7 uq40_8
          have ch40a := ch_a lp29f14 uq40_3
          have ch40b := Int.le_trans lp29f15 uq40_4
          have ch40c := ch_c lp29f16 uq40_5
          have ch40d := ch_d lp29f17 uq40_6
          have ch40e := Int.le_trans lp29f18 uq40_7
          clear lp29f14 lp29f15 uq40_3 uq40_4 lp29f16 lp29f17 lp29f18 lp29f19 uq40_5 uq40_6 uq40_7 lp29f2 lp29f3 lp29f4 lp29f11 lp29f12 lp29f13 hl39
          refine ⟨_, gq40, ?_⟩
          show gz gPP gGG gcn _ _ 184 [some (.ref x), some (.int (zi p)), some (.int (zi zq1)), some (.int (zi rn)), some (.int (zi k)), none, none] [] hq40 _
          have G41 : gSg [114] [] [56000, 56001, 56002, 56003, 71013, 71014, 114999] ty h tyq40 hq40 := gSg.tr (gSg.ss lp29G sh35 (by decide)) xq40 (by decide) (by decide) (fun x hx => by cases hx)
          have t42 : tyq40 x = 71 := gSg.typ xq40 sh35.1 lp29c0 rfl
          have t43 : tyq40 sk = 56 := gSg.typ xq40 sh35.1 lp29c1 rfl
          have t44 : tyq40 bv = 114 := gSg.typ xq40 sh35.1 lp29r1 rfl
          have hl45 : hq40.2.2.2.1 bv = h35.2.2.2.1 bv := gSg.len xq40 sh35.1 lp29r1 rfl
          have s46 := gSg.at xq40 sh35.1 lp29c0 rfl (by decide) lp29k0
          have s47 := gSg.at xq40 sh35.1 lp29c0 rfl (by decide) lp29k1
          have s48 := gSg.at xq40 sh35.1 lp29c0 rfl (by decide) lp29k2
          have s49 := gSg.at xq40 sh35.1 lp29c0 rfl (by decide) lp29k3
          have s50 := gSg.at xq40 sh35.1 lp29c0 rfl (by decide) lp29k4
          have s51 := gSg.at xq40 sh35.1 lp29c0 rfl (by decide) lp29k5
          have s52 := gSg.at xq40 sh35.1 lp29c0 rfl (by decide) lp29k9
          have pr53 := gTab.gr xq40 sh35.1 rfl rfl (fun _ => rfl) (fun _ => rfl) (by decide) (by decide) (by decide) (by decide) lp29k10
          have pr54 := gRn.gr xq40 sh35.1 rfl (by decide) (by decide) lp29k11
          have pr55 := gJv.gr xq40 sh35.1 (by decide) lp29k14
          have uq56 := gSg.uq xq40 lp29u (by decide)
          have sS57 : gSs rT 1027 tyq40 [56000, 56001, 56002, 56003, 71013, 71014, 114999] hq40 hq40 := gSs.rf xq40.1
          have hwq58e : Int.toNat wv = er.2.2.1 := (congrArg Int.toNat lp29f7).trans (Int.toNat_natCast _)
          have hwq58 : gJv tyq40 x er.2.1 (Int.toNat wv) hq40 := by rw [hwq58e]; exact pr55
          refine gz_s 1 (pc' := 185) (L' := [some (.ref x), some (.int (zi p)), some (.int (zi zq1)), some (.int (zi rn)), some (.int (zi k)), none, none]) (S' := [.ref x]) rfl ?_
          have hl59 : hq40.2.2.2.1 cq40_0 = hq40.2.2.2.1 cq40_0 := congrFun sS57.2.2.2.2.1 cq40_0
          refine gz_call rfl (by decide) rfl (by decide) (by decide) (gcal_of rfl rfl rfl (Nat.le_of_ble_eq_true rfl) (gJ.recv (G := gGG) sS57.1 t42 rfl rfl)) (cw_putWaiting _ sS57.1 x t42 sk s46 t43 cq40_0 ecq40_0 tcq40_0 fq40_0 efq40_0 ⟨by omega, by omega⟩ fq40_1 efq40_1 ⟨afq40_1, bfq40_1⟩ fq40_2 efq40_2 ⟨afq40_2, bfq40_2⟩ cg s47 rcg wv s52 lp29f5 (ewS ec79 0 er.2.2.2) er.2.1 (Int.le_antisymm (by omega) (by omega)) (Int.le_antisymm (by omega) (by omega)) (Int.le_antisymm (by omega) (by omega)) (by omega) (by omega) uq56 yq40_0 yq40_1 hwq58) (fun q60 _ wq60 => ?_)
          obtain ⟨pq60, oq60, hq60⟩ := q60
          obtain ⟨tyq60, xq60, cq60_0, ttq60, fq60_0, fq60_1, fq60_2, fq60_3, ecq60_0, tcq60_0, gq60, efq60_0, afq60_0, bfq60_0, efq60_1, afq60_1, bfq60_1, efq60_2, afq60_2, bfq60_2, efq60_3, afq60_3, bfq60_3, uq60_0, uq60_1, uq60_2, uq60_3, uq60_4, uq60_5, uq60_6, uq60_7, uq60_8, uq60_9, yq60_0, yq60_1, yq60_2⟩ := wq60
          dsimp only at uq60_5 uq60_6 uq60_7 uq60_9
          have ch60a := ch_a ch40a uq60_3
          have ch60b := Int.le_trans ch40b uq60_4
          have ch60c := ch_c ch40c uq60_5
          have ch60d := ch_d ch40d uq60_6
          have ch60e := Int.le_trans ch40e uq60_7
          clear ch40a ch40b uq60_3 uq60_4 ch40c ch40d ch40e uq40_8 uq60_5 uq60_6 uq60_7 afq40_0 bfq40_0 afq40_1 bfq40_1 afq40_2 bfq40_2 uq40_0 uq40_1 uq40_2 hl45 hl59
          refine ⟨_, gq60, ?_⟩
          show gz gPP gGG gcn _ _ 188 [some (.ref x), some (.int (zi p)), some (.int (zi zq1)), some (.int (zi rn)), some (.int (zi k)), none, none] [] hq60 _
          have G61 : gSg [114] [] [56000, 56001, 56002, 56003, 71013, 71014, 114999] ty h tyq60 hq60 := gSg.tr (gSg.ss G41 sS57 (by decide)) xq60 (by decide) (by decide) (fun x hx => by cases hx)
          have t62 : tyq60 x = 71 := gSg.typ xq60 sS57.1 t42 rfl
          have t63 : tyq60 sk = 56 := gSg.typ xq60 sS57.1 t43 rfl
          have t64 : tyq60 bv = 114 := gSg.typ xq60 sS57.1 t44 rfl
          have hl65 : hq60.2.2.2.1 bv = hq40.2.2.2.1 bv := gSg.len xq60 sS57.1 t44 rfl
          have t66 : tyq60 cq40_0 = 114 := gSg.typ xq60 sS57.1 tcq40_0 rfl
          have hl67 : hq60.2.2.2.1 cq40_0 = hq40.2.2.2.1 cq40_0 := gSg.len xq60 sS57.1 tcq40_0 rfl
          have s68 := gSg.at xq60 sS57.1 t42 rfl (by decide) s46
          have s69 := gSg.at xq60 sS57.1 t42 rfl (by decide) s47
          have s70 := gSg.at xq60 sS57.1 t42 rfl (by decide) s48
          have s71 := gSg.at xq60 sS57.1 t42 rfl (by decide) s49
          have s72 := gSg.at xq60 sS57.1 t42 rfl (by decide) s50
          have s73 := gSg.at xq60 sS57.1 t42 rfl (by decide) s51
          have pr74 := gTab.gr xq60 sS57.1 rfl rfl (fun _ => rfl) (fun _ => rfl) (by decide) (by decide) (by decide) (by decide) pr53
          have pr75 := gRn.gr xq60 sS57.1 rfl (by decide) (by decide) pr54
          have pr76 := gJv.gr xq60 sS57.1 (by decide) hwq58
          have uq77 := gSg.uq xq60 uq56 (by decide)
          have sS78 : gSs rT 1027 tyq60 [56000, 56001, 56002, 56003, 71013, 71014, 114999] hq60 hq60 := gSs.rf xq60.1
          have hk79 : eeN er.2.1 er.2.2.1 (ewS ec79 0 er.2.2.2) = eeN er.2.1 (Int.toNat wv) (ewS ec79 0 er.2.2.2) := by rw [hwq58e]
          have hk79_1 : (eeN er.2.1 er.2.2.1 (ewS ec79 0 er.2.2.2)).1 = (eeN er.2.1 (Int.toNat wv) (ewS ec79 0 er.2.2.2)).1 := by rw [hk79]
          have hk79_21 : (eeN er.2.1 er.2.2.1 (ewS ec79 0 er.2.2.2)).2.1 = (eeN er.2.1 (Int.toNat wv) (ewS ec79 0 er.2.2.2)).2.1 := by rw [hk79]
          have hk79_221 : (eeN er.2.1 er.2.2.1 (ewS ec79 0 er.2.2.2)).2.2.1 = (eeN er.2.1 (Int.toNat wv) (ewS ec79 0 er.2.2.2)).2.2.1 := by rw [hk79]
          have hsw80 : gSW tyq60 cq60_0 (eeN er.2.1 er.2.2.1 (ewS ec79 0 er.2.2.2)) hq60 := by rw [hk79]; exact yq60_0
          have hok81 : eeOk (eeN er.2.1 er.2.2.1 (ewS ec79 0 er.2.2.2)) := by rw [hk79]; exact yq60_1
          have hoc82 := hok81.cur
          have hre := eeRk_e (sy := (ewS ec79)) (pl := eeN) (lw := lw) (p := p) (fr := fr) (tt := tt) (k := k) (cf := cf) (t := sg) (by omega) (by omega) (Int.le_antisymm (by omega) (by omega))
          rw [← her] at hre
          have hk83 : eeRz (ewS ec79) eeN lw cf p fr tt sg = eeN er.2.1 er.2.2.1 (ewS ec79 0 er.2.2.2) := hre.1 (by omega)
          have hk83_1 : (eeRz (ewS ec79) eeN lw cf p fr tt sg).1 = (eeN er.2.1 er.2.2.1 (ewS ec79 0 er.2.2.2)).1 := by rw [hk83]
          have hk83_21 : (eeRz (ewS ec79) eeN lw cf p fr tt sg).2.1 = (eeN er.2.1 er.2.2.1 (ewS ec79 0 er.2.2.2)).2.1 := by rw [hk83]
          have hk83_221 : (eeRz (ewS ec79) eeN lw cf p fr tt sg).2.2.1 = (eeN er.2.1 er.2.2.1 (ewS ec79 0 er.2.2.2)).2.2.1 := by rw [hk83]
          have hsw84 : gSW tyq60 cq60_0 (eeRz (ewS ec79) eeN lw cf p fr tt sg) hq60 := by rw [hk83]; exact hsw80
          have hok85 : eeOk (eeRz (ewS ec79) eeN lw cf p fr tt sg) := by rw [hk83]; exact hok81
          have hoc86 := hok85.cur
          have hl87 : 1024 ≤ hq60.2.2.2.1 bv ∧ hq60.2.2.2.1 bv ≤ 1000000 := gJ.rowl (G := gGG) sS78.1 t64 rfl
          have hl88 : 1024 ≤ hq60.2.2.2.1 cq40_0 ∧ hq60.2.2.2.1 cq40_0 ≤ 1000000 := gJ.rowl (G := gGG) sS78.1 t66 rfl
          have hl89 : 1024 ≤ hq60.2.2.2.1 cq60_0 ∧ hq60.2.2.2.1 cq60_0 ≤ 1000000 := gJ.rowl (G := gGG) sS78.1 tcq60_0 rfl
          have G90 : gSg [114] [] [56000, 56001, 56002, 56003, 71013, 71014, 114999] ty h tyq60 hq60 := gSg.ss G61 sS78 (by decide)
          clear hwq58e
          exact gz_end (I := .return_) (len := 1) rfl (Or.inl rfl) ⟨tyq60, G90, cq60_0, trivial, fq60_0, fq60_1, fq60_2, ecq60_0, tcq60_0, rfl, efq60_0, (by omega), (by omega), efq60_1, (by omega), (by omega), efq60_2, (by omega), (by omega), (Int.le_antisymm (by omega) (by omega)), (Int.le_antisymm (by omega) (by omega)), (Int.le_antisymm (by omega) (by omega)), (by omega), (by omega), (by dsimp only; omega), (by dsimp only; omega), (by dsimp only; omega), (by dsimp only; omega), hsw84, hok85⟩
        · refine gy_ifF rfl (by decide) (by decide) (by omega) hc38 ?_
          refine gz_s 1 (pc' := 172) (L' := [some (.ref x), some (.int (zi p)), some (.int (zi zq1)), some (.int (zi rn)), some (.int (zi k)), none, none]) (S' := [.ref x]) rfl ?_
          refine gs_gtk rfl (by decide) rfl sh35.1 lp29c0 rfl rfl lp29k9 ?_
          by_cases hc91 : (wv : Int) ≤ 0
          · refine gy_ifT (pc' := 188) rfl (by decide) (by decide) (by omega) hc91 ?_
            have hre := eeRk_e (sy := (ewS ec79)) (pl := eeN) (lw := lw) (p := p) (fr := fr) (tt := tt) (k := k) (cf := cf) (t := sg) (by omega) (by omega) (Int.le_antisymm (by omega) (by omega))
            rw [← her] at hre
            have hk92 : eeRz (ewS ec79) eeN lw cf p fr tt sg = er.2.2.2 := hre.2 (by omega)
            have hk92_1 : (eeRz (ewS ec79) eeN lw cf p fr tt sg).1 = (er.2.2.2).1 := by rw [hk92]
            have hk92_21 : (eeRz (ewS ec79) eeN lw cf p fr tt sg).2.1 = (er.2.2.2).2.1 := by rw [hk92]
            have hk92_221 : (eeRz (ewS ec79) eeN lw cf p fr tt sg).2.2.1 = (er.2.2.2).2.2.1 := by rw [hk92]
            have hsw93 : gSW ty36 bv (eeRz (ewS ec79) eeN lw cf p fr tt sg) h35 := by rw [hk92]; exact lp29k12
            have hok94 : eeOk (eeRz (ewS ec79) eeN lw cf p fr tt sg) := by rw [hk92]; exact lp29k13
            have hoc95 := hok94.cur
            have hl96 : 1024 ≤ h35.2.2.2.1 bv ∧ h35.2.2.2.1 bv ≤ 1000000 := gJ.rowl (G := gGG) sh35.1 lp29r1 rfl
            have G97 : gSg [114] [] [56000, 56001, 56002, 56003, 71013, 71014, 114999] ty h ty36 h35 := gSg.ss lp29G sh35 (by decide)
            exact gz_end (I := .return_) (len := 1) rfl (Or.inl rfl) ⟨ty36, G97, bv, trivial, cv, uv, hv, lp29r0, lp29r1, rfl, lp29k6, (by omega), (by omega), lp29k7, (by omega), (by omega), lp29k8, (by omega), (by omega), (Int.le_antisymm (by omega) (by omega)), (Int.le_antisymm (by omega) (by omega)), (Int.le_antisymm (by omega) (by omega)), (by omega), (by omega), (by dsimp only; omega), (by dsimp only; omega), (by dsimp only; omega), (by dsimp only; omega), hsw93, hok94⟩
          · refine gy_ifF rfl (by decide) (by decide) (by omega) hc91 ?_
            refine gz_s 3 (pc' := 181) (L' := [some (.ref x), some (.int (zi p)), some (.int (zi zq1)), some (.int (zi rn)), some (.int (zi k)), none, none]) (S' := [.int (zi 0), .int (zi 1), .ref x]) rfl ?_
            have hl98 : h35.2.2.2.1 bv = h35.2.2.2.1 bv := congrFun sh35.2.2.2.2.1 bv
            refine gz_call rfl (by decide) rfl (by decide) (by decide) (gcal_of rfl rfl rfl (Nat.le_of_ble_eq_true rfl) (gJ.recv (G := gGG) sh35.1 lp29c0 rfl rfl)) (cw_putSymbol1 _ sh35.1 x lp29c0 1 ⟨by omega, by omega⟩ 0 ⟨by omega, by omega⟩ sk lp29k0 lp29c1 bv lp29r0 lp29r1 cv lp29k6 lp29f2 uv lp29k7 lp29f3 hv lp29k8 lp29f4 cg lp29k1 rcg er.2.2.2 ec79 (Int.le_antisymm (by omega) (by omega)) (Int.le_antisymm (by omega) (by omega)) (Int.le_antisymm (by omega) (by omega)) (by omega) (by omega) lp29u lp29k12 lp29k13 lp29k10) (fun q99 _ wq99 => ?_)
            obtain ⟨pq99, oq99, hq99⟩ := q99
            obtain ⟨tyq99, xq99, cq99_0, ttq99, fq99_0, fq99_1, fq99_2, ecq99_0, tcq99_0, gq99, efq99_0, afq99_0, bfq99_0, efq99_1, afq99_1, bfq99_1, efq99_2, afq99_2, bfq99_2, uq99_0, uq99_1, uq99_2, uq99_3, uq99_4, uq99_5, uq99_6, uq99_7, uq99_8, yq99_0, yq99_1⟩ := wq99
            dsimp only at uq99_5 uq99_6 uq99_7 uq99_8
            have ch99a := ch_a lp29f14 uq99_3
            have ch99b := Int.le_trans lp29f15 uq99_4
            have ch99c := ch_c lp29f16 uq99_5
            have ch99d := ch_d lp29f17 uq99_6
            have ch99e := Int.le_trans lp29f18 uq99_7
            clear lp29f14 lp29f15 uq99_3 uq99_4 lp29f16 lp29f17 lp29f18 lp29f19 uq99_5 uq99_6 uq99_7 lp29f2 lp29f3 lp29f4 lp29f11 lp29f12 lp29f13 hl98
            refine ⟨_, gq99, ?_⟩
            show gz gPP gGG gcn _ _ 184 [some (.ref x), some (.int (zi p)), some (.int (zi zq1)), some (.int (zi rn)), some (.int (zi k)), none, none] [] hq99 _
            have G100 : gSg [114] [] [56000, 56001, 56002, 56003, 71013, 71014, 114999] ty h tyq99 hq99 := gSg.tr (gSg.ss lp29G sh35 (by decide)) xq99 (by decide) (by decide) (fun x hx => by cases hx)
            have t101 : tyq99 x = 71 := gSg.typ xq99 sh35.1 lp29c0 rfl
            have t102 : tyq99 sk = 56 := gSg.typ xq99 sh35.1 lp29c1 rfl
            have t103 : tyq99 bv = 114 := gSg.typ xq99 sh35.1 lp29r1 rfl
            have hl104 : hq99.2.2.2.1 bv = h35.2.2.2.1 bv := gSg.len xq99 sh35.1 lp29r1 rfl
            have s105 := gSg.at xq99 sh35.1 lp29c0 rfl (by decide) lp29k0
            have s106 := gSg.at xq99 sh35.1 lp29c0 rfl (by decide) lp29k1
            have s107 := gSg.at xq99 sh35.1 lp29c0 rfl (by decide) lp29k2
            have s108 := gSg.at xq99 sh35.1 lp29c0 rfl (by decide) lp29k3
            have s109 := gSg.at xq99 sh35.1 lp29c0 rfl (by decide) lp29k4
            have s110 := gSg.at xq99 sh35.1 lp29c0 rfl (by decide) lp29k5
            have s111 := gSg.at xq99 sh35.1 lp29c0 rfl (by decide) lp29k9
            have pr112 := gTab.gr xq99 sh35.1 rfl rfl (fun _ => rfl) (fun _ => rfl) (by decide) (by decide) (by decide) (by decide) lp29k10
            have pr113 := gRn.gr xq99 sh35.1 rfl (by decide) (by decide) lp29k11
            have pr114 := gJv.gr xq99 sh35.1 (by decide) lp29k14
            have uq115 := gSg.uq xq99 lp29u (by decide)
            have sS116 : gSs rT 1027 tyq99 [56000, 56001, 56002, 56003, 71013, 71014, 114999] hq99 hq99 := gSs.rf xq99.1
            have hwq117e : Int.toNat wv = er.2.2.1 := (congrArg Int.toNat lp29f7).trans (Int.toNat_natCast _)
            have hwq117 : gJv tyq99 x er.2.1 (Int.toNat wv) hq99 := by rw [hwq117e]; exact pr114
            refine gz_s 1 (pc' := 185) (L' := [some (.ref x), some (.int (zi p)), some (.int (zi zq1)), some (.int (zi rn)), some (.int (zi k)), none, none]) (S' := [.ref x]) rfl ?_
            have hl118 : hq99.2.2.2.1 cq99_0 = hq99.2.2.2.1 cq99_0 := congrFun sS116.2.2.2.2.1 cq99_0
            refine gz_call rfl (by decide) rfl (by decide) (by decide) (gcal_of rfl rfl rfl (Nat.le_of_ble_eq_true rfl) (gJ.recv (G := gGG) sS116.1 t101 rfl rfl)) (cw_putWaiting _ sS116.1 x t101 sk s105 t102 cq99_0 ecq99_0 tcq99_0 fq99_0 efq99_0 ⟨by omega, by omega⟩ fq99_1 efq99_1 ⟨afq99_1, bfq99_1⟩ fq99_2 efq99_2 ⟨afq99_2, bfq99_2⟩ cg s106 rcg wv s111 lp29f5 (ewS ec79 0 er.2.2.2) er.2.1 (Int.le_antisymm (by omega) (by omega)) (Int.le_antisymm (by omega) (by omega)) (Int.le_antisymm (by omega) (by omega)) (by omega) (by omega) uq115 yq99_0 yq99_1 hwq117) (fun q119 _ wq119 => ?_)
            obtain ⟨pq119, oq119, hq119⟩ := q119
            obtain ⟨tyq119, xq119, cq119_0, ttq119, fq119_0, fq119_1, fq119_2, fq119_3, ecq119_0, tcq119_0, gq119, efq119_0, afq119_0, bfq119_0, efq119_1, afq119_1, bfq119_1, efq119_2, afq119_2, bfq119_2, efq119_3, afq119_3, bfq119_3, uq119_0, uq119_1, uq119_2, uq119_3, uq119_4, uq119_5, uq119_6, uq119_7, uq119_8, uq119_9, yq119_0, yq119_1, yq119_2⟩ := wq119
            dsimp only at uq119_5 uq119_6 uq119_7 uq119_9
            have ch119a := ch_a ch99a uq119_3
            have ch119b := Int.le_trans ch99b uq119_4
            have ch119c := ch_c ch99c uq119_5
            have ch119d := ch_d ch99d uq119_6
            have ch119e := Int.le_trans ch99e uq119_7
            clear ch99a ch99b uq119_3 uq119_4 ch99c ch99d ch99e uq99_8 uq119_5 uq119_6 uq119_7 afq99_0 bfq99_0 afq99_1 bfq99_1 afq99_2 bfq99_2 uq99_0 uq99_1 uq99_2 hl104 hl118
            refine ⟨_, gq119, ?_⟩
            show gz gPP gGG gcn _ _ 188 [some (.ref x), some (.int (zi p)), some (.int (zi zq1)), some (.int (zi rn)), some (.int (zi k)), none, none] [] hq119 _
            have G120 : gSg [114] [] [56000, 56001, 56002, 56003, 71013, 71014, 114999] ty h tyq119 hq119 := gSg.tr (gSg.ss G100 sS116 (by decide)) xq119 (by decide) (by decide) (fun x hx => by cases hx)
            have t121 : tyq119 x = 71 := gSg.typ xq119 sS116.1 t101 rfl
            have t122 : tyq119 sk = 56 := gSg.typ xq119 sS116.1 t102 rfl
            have t123 : tyq119 bv = 114 := gSg.typ xq119 sS116.1 t103 rfl
            have hl124 : hq119.2.2.2.1 bv = hq99.2.2.2.1 bv := gSg.len xq119 sS116.1 t103 rfl
            have t125 : tyq119 cq99_0 = 114 := gSg.typ xq119 sS116.1 tcq99_0 rfl
            have hl126 : hq119.2.2.2.1 cq99_0 = hq99.2.2.2.1 cq99_0 := gSg.len xq119 sS116.1 tcq99_0 rfl
            have s127 := gSg.at xq119 sS116.1 t101 rfl (by decide) s105
            have s128 := gSg.at xq119 sS116.1 t101 rfl (by decide) s106
            have s129 := gSg.at xq119 sS116.1 t101 rfl (by decide) s107
            have s130 := gSg.at xq119 sS116.1 t101 rfl (by decide) s108
            have s131 := gSg.at xq119 sS116.1 t101 rfl (by decide) s109
            have s132 := gSg.at xq119 sS116.1 t101 rfl (by decide) s110
            have pr133 := gTab.gr xq119 sS116.1 rfl rfl (fun _ => rfl) (fun _ => rfl) (by decide) (by decide) (by decide) (by decide) pr112
            have pr134 := gRn.gr xq119 sS116.1 rfl (by decide) (by decide) pr113
            have pr135 := gJv.gr xq119 sS116.1 (by decide) hwq117
            have uq136 := gSg.uq xq119 uq115 (by decide)
            have sS137 : gSs rT 1027 tyq119 [56000, 56001, 56002, 56003, 71013, 71014, 114999] hq119 hq119 := gSs.rf xq119.1
            have hk138 : eeN er.2.1 er.2.2.1 (ewS ec79 0 er.2.2.2) = eeN er.2.1 (Int.toNat wv) (ewS ec79 0 er.2.2.2) := by rw [hwq117e]
            have hk138_1 : (eeN er.2.1 er.2.2.1 (ewS ec79 0 er.2.2.2)).1 = (eeN er.2.1 (Int.toNat wv) (ewS ec79 0 er.2.2.2)).1 := by rw [hk138]
            have hk138_21 : (eeN er.2.1 er.2.2.1 (ewS ec79 0 er.2.2.2)).2.1 = (eeN er.2.1 (Int.toNat wv) (ewS ec79 0 er.2.2.2)).2.1 := by rw [hk138]
            have hk138_221 : (eeN er.2.1 er.2.2.1 (ewS ec79 0 er.2.2.2)).2.2.1 = (eeN er.2.1 (Int.toNat wv) (ewS ec79 0 er.2.2.2)).2.2.1 := by rw [hk138]
            have hsw139 : gSW tyq119 cq119_0 (eeN er.2.1 er.2.2.1 (ewS ec79 0 er.2.2.2)) hq119 := by rw [hk138]; exact yq119_0
            have hok140 : eeOk (eeN er.2.1 er.2.2.1 (ewS ec79 0 er.2.2.2)) := by rw [hk138]; exact yq119_1
            have hoc141 := hok140.cur
            have hre := eeRk_e (sy := (ewS ec79)) (pl := eeN) (lw := lw) (p := p) (fr := fr) (tt := tt) (k := k) (cf := cf) (t := sg) (by omega) (by omega) (Int.le_antisymm (by omega) (by omega))
            rw [← her] at hre
            have hk142 : eeRz (ewS ec79) eeN lw cf p fr tt sg = eeN er.2.1 er.2.2.1 (ewS ec79 0 er.2.2.2) := hre.1 (by omega)
            have hk142_1 : (eeRz (ewS ec79) eeN lw cf p fr tt sg).1 = (eeN er.2.1 er.2.2.1 (ewS ec79 0 er.2.2.2)).1 := by rw [hk142]
            have hk142_21 : (eeRz (ewS ec79) eeN lw cf p fr tt sg).2.1 = (eeN er.2.1 er.2.2.1 (ewS ec79 0 er.2.2.2)).2.1 := by rw [hk142]
            have hk142_221 : (eeRz (ewS ec79) eeN lw cf p fr tt sg).2.2.1 = (eeN er.2.1 er.2.2.1 (ewS ec79 0 er.2.2.2)).2.2.1 := by rw [hk142]
            have hsw143 : gSW tyq119 cq119_0 (eeRz (ewS ec79) eeN lw cf p fr tt sg) hq119 := by rw [hk142]; exact hsw139
            have hok144 : eeOk (eeRz (ewS ec79) eeN lw cf p fr tt sg) := by rw [hk142]; exact hok140
            have hoc145 := hok144.cur
            have hl146 : 1024 ≤ hq119.2.2.2.1 bv ∧ hq119.2.2.2.1 bv ≤ 1000000 := gJ.rowl (G := gGG) sS137.1 t123 rfl
            have hl147 : 1024 ≤ hq119.2.2.2.1 cq99_0 ∧ hq119.2.2.2.1 cq99_0 ≤ 1000000 := gJ.rowl (G := gGG) sS137.1 t125 rfl
            have hl148 : 1024 ≤ hq119.2.2.2.1 cq119_0 ∧ hq119.2.2.2.1 cq119_0 ≤ 1000000 := gJ.rowl (G := gGG) sS137.1 tcq119_0 rfl
            have G149 : gSg [114] [] [56000, 56001, 56002, 56003, 71013, 71014, 114999] ty h tyq119 hq119 := gSg.ss G120 sS137 (by decide)
            clear hwq117e
            exact gz_end (I := .return_) (len := 1) rfl (Or.inl rfl) ⟨tyq119, G149, cq119_0, trivial, fq119_0, fq119_1, fq119_2, ecq119_0, tcq119_0, rfl, efq119_0, (by omega), (by omega), efq119_1, (by omega), (by omega), efq119_2, (by omega), (by omega), (Int.le_antisymm (by omega) (by omega)), (Int.le_antisymm (by omega) (by omega)), (Int.le_antisymm (by omega) (by omega)), (by omega), (by omega), (by dsimp only; omega), (by dsimp only; omega), (by dsimp only; omega), (by dsimp only; omega), hsw143, hok144⟩
      · refine gy_icF rfl (by decide) (by decide) (by omega) (by omega) hc37 ?_
        refine gz_s 1 (pc' := 29) (L' := [some (.ref x), some (.int (zi p)), some (.int (zi zq1)), some (.int (zi rn)), some (.int (zi k)), none, none]) (S' := [.ref x]) rfl ?_
        refine gs_gtr rfl (by decide) rfl sh35.1 lp29c0 rfl rfl rfl (fun c150 ec150 tc150 => ?_)
        refine gy_s 3 (pc' := 36) (L' := [some (.ref x), some (.int (zi p)), some (.int (zi zq1)), some (.int (zi rn)), some (.int (zi k)), none, none]) (S' := [.int ((zi p) + (zi k)), .ref c150]) (L2 := [some (.ref x), some (.int (zi p)), some (.int (zi zq1)), some (.int (zi rn)), some (.int (zi k)), none, none]) (S2 := [.int (zi (p + k)), .ref c150]) rfl (by simp only [zi_add, zi_sub, zi_mul, zi_neg, zi_and1, zi_and7, zi_and15, zi_and31, zi_and255]) (by simp only [zi_add, zi_sub, zi_mul, zi_neg, zi_and1, zi_and7, zi_and15, zi_and31, zi_and255]) ?_
        have hl151 : 1024 ≤ h35.2.2.2.1 c150 ∧ h35.2.2.2.1 c150 ≤ 1024 := gJ.rowl (G := gGG) sh35.1 tc150 rfl
        refine gs_ald rfl (by decide) sh35.1 tc150 rfl rfl rfl (by decide) (fun _ => rfl) (by omega) (by omega) (fun z152 ez152 az152 bz152 => ?_)
        have hf153 := gRn.at (i := p + k) (z := z152) lp29k11 tc150 ez152 (by omega) (by omega) (by omega)
        have hcf : cf (p + k).toNat = z152 := hf153
        refine gz_s 2 (pc' := 41) (L' := [some (.ref x), some (.int (zi p)), some (.int (zi zq1)), some (.int (zi rn)), some (.int (zi k)), some (.int (zi z152)), none]) (S' := [.int (zi z152)]) rfl ?_
        refine gz_call rfl (by decide) rfl (by decide) (by decide) (gcal_of rfl rfl rfl (Nat.le_of_ble_eq_true rfl) rfl) (cl_Math_abs _ sh35.1 z152 ⟨by omega, by omega⟩ ) (fun q154 _ wq154 => ?_)
        obtain ⟨pq154, oq154, hq154⟩ := q154
        obtain ⟨xq154, zq154, gq154, aq154, bq154, uq154_0, uq154_1⟩ := wq154
        refine ⟨_, gq154, ?_⟩
        show gz gPP gGG gcn _ _ 44 [some (.ref x), some (.int (zi p)), some (.int (zi zq1)), some (.int (zi rn)), some (.int (zi k)), some (.int (zi z152)), none] [.int (zi zq154)] hq154 _
        have sq154 : gSs rT 1027 ty36 [56000, 56001, 56002, 56003, 71013, 71014, 114999] h35 hq154 := gSs.tr sh35 xq154 (by decide)
        have s155 := (xq154.2.2.2.2.2 x 0 (by rw [lp29c0]; decide)).trans lp29k0
        have s156 := (xq154.2.2.2.2.2 x 11 (by rw [lp29c0]; decide)).trans lp29k1
        have s157 := (xq154.2.2.2.2.2 x 7 (by rw [lp29c0]; decide)).trans lp29k2
        have s158 := (xq154.2.2.2.2.2 x 8 (by rw [lp29c0]; decide)).trans lp29k3
        have s159 := (xq154.2.2.2.2.2 x 10 (by rw [lp29c0]; decide)).trans lp29k4
        have s160 := (xq154.2.2.2.2.2 x 5 (by rw [lp29c0]; decide)).trans lp29k5
        have s161 := (xq154.2.2.2.2.2 sk 1 (by rw [lp29c1]; decide)).trans lp29k6
        have s162 := (xq154.2.2.2.2.2 sk 2 (by rw [lp29c1]; decide)).trans lp29k7
        have s163 := (xq154.2.2.2.2.2 sk 3 (by rw [lp29c1]; decide)).trans lp29k8
        have s164 := (xq154.2.2.2.2.2 x 14 (by rw [lp29c0]; decide)).trans lp29k9
        have s165 := (xq154.2.2.2.2.2 sk 0 (by rw [lp29c1]; decide)).trans lp29r0
        have s166 := (xq154.2.2.2.2.2 x 2 (by rw [lp29c0]; decide)).trans ec150
        have pr167 := gTab.fr xq154.2 (fun _ => rfl) (fun _ => rfl) (by decide) (by decide) lp29k10
        have pr168 := gRn.fr xq154.2 (by decide) lp29k11
        have pr169 := gSW.fr xq154.2 (by decide) lp29k12
        have pr170 := gJv.fr xq154.2 (by decide) lp29k14
        have hA : zq154 = eeA z152 := eeA_of (by omega) (by omega)
        refine gz_s 1 (pc' := 45) (L' := [some (.ref x), some (.int (zi p)), some (.int (zi zq1)), some (.int (zi rn)), some (.int (zi k)), some (.int (zi z152)), none]) (S' := [.ref x, .int (zi zq154)]) rfl ?_
        refine gs_gtk rfl (by decide) rfl sq154.1 lp29c0 rfl rfl s159 ?_
        refine gy_shr rfl (by decide) (by omega) (by omega) ?_
        have hx171 := zsh_b (a := zq154) (n := lw) (by omega)
        refine gz_s 2 (pc' := 53) (L' := [some (.ref x), some (.int (zi p)), some (.int (zi zq1)), some (.int (zi rn)), some (.int (zi k)), some (.int (zi z152)), some (.int (zi (zq154 / 2 ^ (lw).toNat)))]) (S' := [.int (zi (zq154 / 2 ^ (lw).toNat))]) rfl ?_
        by_cases hc172 : ¬ (zq154 / 2 ^ (lw).toNat : Int) = 0
        · refine gy_ifT (pc' := 62) rfl (by decide) (by decide) (by omega) hc172 ?_
          have hk174 : (eeWk (ewS ec79) eeN er rn rn).2.2.2 = er.2.2.2 := by rw [eeWk_0]
          have hk174_1 : ((eeWk (ewS ec79) eeN er rn rn).2.2.2).1 = (er.2.2.2).1 := by rw [hk174]
          have hk174_21 : ((eeWk (ewS ec79) eeN er rn rn).2.2.2).2.1 = (er.2.2.2).2.1 := by rw [hk174]
          have hk174_221 : ((eeWk (ewS ec79) eeN er rn rn).2.2.2).2.2.1 = (er.2.2.2).2.2.1 := by rw [hk174]
          have hsw175 : gSW ty36 bv ((eeWk (ewS ec79) eeN er rn rn).2.2.2) hq154 := by rw [hk174]; exact pr169
          have hok176 : eeOk ((eeWk (ewS ec79) eeN er rn rn).2.2.2) := by rw [hk174]; exact lp29k13
          have hoc177 := hok176.cur
          have hwq178 : gJv ty36 x (eeWk (ewS ec79) eeN er rn rn).2.1 (eeWk (ewS ec79) eeN er rn rn).2.2.1 hq154 := by rw [eeWk_0]; exact pr170
          have lp173 : ∀ (fu : Nat) (ty180 : Nat → Nat) (h179 : gH) (bv2 : Nat) (rn2 : Int) (cv2 : Int) (uv2 : Int) (hv2 : Int) (wv2 : Int), (rn2).toNat < fu → gSg [114] [] [56000, 56001, 56002, 56003, 71013, 71014, 114999] ty h ty180 h179 → gUq ty180 → ty180 x = 71 → ty180 sk = 56 → ty180 c150 = 73 → h179.2.2.2.2 sk 0 = .ref bv2 → ty180 bv2 = 114 → (0 ≤ rn2 ∧ rn2 ≤ 64) → (0 ≤ cv2 ∧ cv2 ≤ 499999) → (0 ≤ uv2 ∧ uv2 ≤ 127) → (0 ≤ hv2 ∧ hv2 ≤ 7) → (0 ≤ wv2 ∧ wv2 ≤ 64) → (rn2 ≤ rn) → ((rn - rn2) % 16 = 0) → (rn2 = rn ∨ k ≤ eeLk lw cf p fr tt) → (rn2 = (eeWk (ewS ec79) eeN er rn rn2).1) → (wv2 = (((eeWk (ewS ec79) eeN er rn rn2).2.2.1 : Nat) : Int)) → (wv2 ≤ wv) → (cv2 = ((eeWk (ewS ec79) eeN er rn rn2).2.2.2).1) → (uv2 = ((eeWk (ewS ec79) eeN er rn rn2).2.2.2).2.1) → (hv2 = ((eeWk (ewS ec79) eeN er rn rn2).2.2.2).2.2.1) → (4 * cv2 + hv2 + 320 * rn2 + 310 * wv2 ≤ 4 * c0 + h0 + 320 * (k - fr)) → (c0 ≤ cv2) → (1024 * ((h179.1 : Int) - h.1) ≤ (h179.2.2.2.1 bv2 : Int) - h.2.2.2.1 bt) → (((h179.2.1 : Int) - h.2.1) ≤ 2 * ((h179.2.2.2.1 bv2 : Int) - h.2.2.2.1 bt)) → ((h.2.2.2.1 bt : Int) ≤ (h179.2.2.2.1 bv2 : Int)) → (cv2 ≤ (h179.2.2.2.1 bv2 : Int)) → h179.2.2.2.2 x 0 = .ref sk → h179.2.2.2.2 x 11 = .int (zi cg) → h179.2.2.2.2 x 7 = .int (zi fr) → h179.2.2.2.2 x 8 = .int (zi tt) → h179.2.2.2.2 x 10 = .int (zi lw) → h179.2.2.2.2 x 5 = .int (zi bs) → h179.2.2.2.2 x 2 = .ref c150 → h179.2.2.2.2 sk 1 = .int (zi cv2) → h179.2.2.2.2 sk 2 = .int (zi uv2) → h179.2.2.2.2 sk 3 = .int (zi hv2) → h179.2.2.2.2 x 14 = .int (zi wv2) → gTab (True) ty180 78 79 ec79 h179 → gRn (64 * bs).toNat ty180 73 cf h179 → gSW ty180 bv2 ((eeWk (ewS ec79) eeN er rn rn2).2.2.2) h179 → eeOk ((eeWk (ewS ec79) eeN er rn rn2).2.2.2) → gJv ty180 x ((eeWk (ewS ec79) eeN er rn rn2).2.1) ((eeWk (ewS ec79) eeN er rn rn2).2.2.1) h179 → gz gPP gGG gcn (d + 5) gt117 62 [some (.ref x), some (.int (zi p)), some (.int (zi zq1)), some (.int (zi rn2)), some (.int (zi k)), some (.int (zi z152)), some (.int (zi (zq154 / 2 ^ (lw).toNat)))] [] h179 (fun q _ => ∃ ty9 : Nat → Nat, gSg [114] [] [56000, 56001, 56002, 56003, 71013, 71014, 114999] ty h ty9 q.2.2 ∧ ∃ bt2 : Nat, True ∧ ∃ c1 u1 h1 : Int, q.2.2.2.2.2.2 sk 0 = .ref bt2 ∧ ty9 bt2 = 114 ∧ gfin gt117 q.1 q.2.1 = some none ∧ q.2.2.2.2.2.2 sk 1 = .int (zi c1) ∧ 0 ≤ c1 ∧ c1 ≤ 500000 ∧ q.2.2.2.2.2.2 sk 2 = .int (zi u1) ∧ 0 ≤ u1 ∧ u1 ≤ 127 ∧ q.2.2.2.2.2.2 sk 3 = .int (zi h1) ∧ 0 ≤ h1 ∧ h1 ≤ 7 ∧ (c1 = (eeRz (ewS ec79) eeN lw cf p fr tt sg).1) ∧ (u1 = (eeRz (ewS ec79) eeN lw cf p fr tt sg).2.1) ∧ (h1 = (eeRz (ewS ec79) eeN lw cf p fr tt sg).2.2.1) ∧ (4 * c1 + h1 ≤ 4 * c0 + h0 + 320 * (tt - fr + 1)) ∧ (c0 ≤ c1) ∧ (1024 * ((q.2.2.1 : Int) - h.1) ≤ (q.2.2.2.2.2.1 bt2 : Int) - h.2.2.2.1 bt) ∧ (((q.2.2.2.1 : Int) - h.2.1) ≤ 2 * ((q.2.2.2.2.2.1 bt2 : Int) - h.2.2.2.1 bt)) ∧ ((h.2.2.2.1 bt : Int) ≤ (q.2.2.2.2.2.1 bt2 : Int)) ∧ (c1 ≤ (q.2.2.2.2.2.1 bt2 : Int)) ∧ (gSW ty9 bt2 (eeRz (ewS ec79) eeN lw cf p fr tt sg) q.2.2) ∧ (eeOk (eeRz (ewS ec79) eeN lw cf p fr tt sg))) := by
            intro fu
            induction fu with
            | zero => intro ty180 h179 bv2 rn2 cv2 uv2 hv2 wv2 hm; exact absurd hm (Nat.not_lt_zero _)
            | succ fu ihlp173 =>
              intro ty180 h179 bv2 rn2 cv2 uv2 hv2 wv2 lp173m lp173G lp173u lp173c0 lp173c1 lp173c2 lp173r0 lp173r1 lp173f0 lp173f1 lp173f2 lp173f3 lp173f4 lp173f5 lp173f6 lp173f7 lp173f8 lp173f9 lp173f10 lp173f11 lp173f12 lp173f13 lp173f14 lp173f15 lp173f16 lp173f17 lp173f18 lp173f19 lp173k0 lp173k1 lp173k2 lp173k3 lp173k4 lp173k5 lp173k6 lp173k7 lp173k8 lp173k9 lp173k10 lp173k11 lp173k12 lp173k13 lp173k14 lp173k15
              have sh179 : gSs rT 1027 ty180 [56000, 56001, 56002, 56003, 71013, 71014, 114999] h179 h179 := gSs.rf lp173G.1
              obtain ⟨ew, hew⟩ : ∃ x9 : Int × Int × Nat × gWt, x9 = eeWk (ewS ec79) eeN er rn rn2 := ⟨_, rfl⟩
              rw [← hew] at lp173f8 lp173f9 lp173f11 lp173f12 lp173f13 lp173k13 lp173k14 lp173k15
              clear lp29f2 lp29f3 lp29f4 lp29f11 lp29f12 lp29f13 lp29f14 lp29f15 lp29f16 lp29f17 lp29f18 lp29f19 hk174_1 hk174_21 hk174_221 hoc177
              refine gz_s 2 (pc' := 65) (L' := [some (.ref x), some (.int (zi p)), some (.int (zi zq1)), some (.int (zi rn2)), some (.int (zi k)), some (.int (zi z152)), some (.int (zi (zq154 / 2 ^ (lw).toNat)))]) (S' := [.int (zi 15), .int (zi rn2)]) rfl ?_
              by_cases hc181 : (rn2 : Int) ≤ 15
              · refine gy_icT (pc' := 92) rfl (by decide) (by decide) (by omega) (by omega) hc181 ?_
                refine gz_s 2 (pc' := 95) (L' := [some (.ref x), some (.int (zi p)), some (.int (zi zq1)), some (.int (zi rn2)), some (.int (zi k)), some (.int (zi z152)), some (.int (zi (zq154 / 2 ^ (lw).toNat)))]) (S' := [.int (zi 1), .int (zi (zq154 / 2 ^ (lw).toNat))]) rfl ?_
                by_cases hc182 : (zq154 / 2 ^ (lw).toNat : Int) ≤ 1
                · refine gy_icT (pc' := 129) rfl (by decide) (by decide) (by omega) (by omega) hc182 ?_
                  have h19 : zq154 / 2 ^ (lw).toNat = 1 := Int.le_antisymm (by omega) (by omega)
                  have hk9 : k ≤ eeLk lw cf p fr tt := eeLk_1 (by omega) (by omega) (by omega) (by omega) hcf (by rw [← hA]; exact h19)
                  have hm9 := (e_hmc (Iff.of_eq (congrArg (fun x9 : Int => k ≤ x9) hlk9)) lp173f7 lp173f6 (by omega))
                  have hz15 : rn2 ≤ 15 := hm9.elim (fun w => w.2.1) (fun w => absurd hk9 w.1)
                  have hs9 : (16 * rn2) + 1 = 16 * (rn2 % 16) + 1 := by rw [Int.emod_eq_of_lt (by omega) (by omega)]
                  have hRv : ∀ V9 : Int, (V9 = if z152 < 0 then 0 else 1) → eeRk (ewS ec79) eeN lw cf p fr tt sg (k + 1) = (0, ew.2.1, 0, eeN ew.2.1 ew.2.2.1 (eeN V9 (Int.toNat 1) ((ewS ec79) ((16 * rn2) + 1) ew.2.2.2))) := fun V9 e8 => eeRk_1v (k := k) (v := z152) (a := zq154 / 2 ^ (lw).toNat) (s := (16 * rn2) + 1) (V := V9) (x := rn) (y := rn2) her hew (by omega) (by omega) (by omega) hcf (by rw [hA]) h19 lp29f6 ⟨by omega, by omega⟩ hm9 lp173f8 hs9 e8
                  clear hm9 hs9 lp173f7
                  refine gy_s 7 (pc' := 137) (L' := [some (.ref x), some (.int (zi p)), some (.int (zi zq1)), some (.int (zi rn2)), some (.int (zi k)), some (.int (zi z152)), some (.int (zi (zq154 / 2 ^ (lw).toNat)))]) (S' := [.int (((zi 16) * (zi rn2)) + (zi 1)), .int (zi 1), .ref x]) (L2 := [some (.ref x), some (.int (zi p)), some (.int (zi zq1)), some (.int (zi rn2)), some (.int (zi k)), some (.int (zi z152)), some (.int (zi (zq154 / 2 ^ (lw).toNat)))]) (S2 := [.int (zi ((16 * rn2) + 1)), .int (zi 1), .ref x]) rfl (by simp only [zi_add, zi_sub, zi_mul, zi_neg, zi_and1, zi_and7, zi_and15, zi_and31, zi_and255]) (by simp only [zi_add, zi_sub, zi_mul, zi_neg, zi_and1, zi_and7, zi_and15, zi_and31, zi_and255]) ?_
                  have hl183 : h179.2.2.2.1 bv2 = h179.2.2.2.1 bv2 := congrFun sh179.2.2.2.2.1 bv2
                  refine gz_call rfl (by decide) rfl (by decide) (by decide) (gcal_of rfl rfl rfl (Nat.le_of_ble_eq_true rfl) (gJ.recv (G := gGG) sh179.1 lp173c0 rfl rfl)) (cw_putSymbol1 _ sh179.1 x lp173c0 1 ⟨by omega, by omega⟩ ((16 * rn2) + 1) ⟨by omega, by omega⟩ sk lp173k0 lp173c1 bv2 lp173r0 lp173r1 cv2 lp173k7 lp173f1 uv2 lp173k8 lp173f2 hv2 lp173k9 lp173f3 cg lp173k1 rcg ew.2.2.2 ec79 (Int.le_antisymm (by omega) (by omega)) (Int.le_antisymm (by omega) (by omega)) (Int.le_antisymm (by omega) (by omega)) (by omega) (by omega) lp173u lp173k13 lp173k14 lp173k11) (fun q184 _ wq184 => ?_)
                  obtain ⟨pq184, oq184, hq184⟩ := q184
                  obtain ⟨tyq184, xq184, cq184_0, ttq184, fq184_0, fq184_1, fq184_2, ecq184_0, tcq184_0, gq184, efq184_0, afq184_0, bfq184_0, efq184_1, afq184_1, bfq184_1, efq184_2, afq184_2, bfq184_2, uq184_0, uq184_1, uq184_2, uq184_3, uq184_4, uq184_5, uq184_6, uq184_7, uq184_8, yq184_0, yq184_1⟩ := wq184
                  dsimp only at uq184_5 uq184_6 uq184_7 uq184_8
                  have ch184a := ch_a lp173f14 uq184_3
                  have ch184b := Int.le_trans lp173f15 uq184_4
                  have ch184c := ch_c lp173f16 uq184_5
                  have ch184d := ch_d lp173f17 uq184_6
                  have ch184e := Int.le_trans lp173f18 uq184_7
                  clear lp173f14 lp173f15 uq184_3 uq184_4 lp173f16 lp173f17 lp173f18 lp173f19 uq184_5 uq184_6 uq184_7 hl151 lp173f1 lp173f2 lp173f3 lp173f11 lp173f12 lp173f13 hl183
                  refine ⟨_, gq184, ?_⟩
                  show gz gPP gGG gcn _ _ 140 [some (.ref x), some (.int (zi p)), some (.int (zi zq1)), some (.int (zi rn2)), some (.int (zi k)), some (.int (zi z152)), some (.int (zi (zq154 / 2 ^ (lw).toNat)))] [] hq184 _
                  have G185 : gSg [114] [] [56000, 56001, 56002, 56003, 71013, 71014, 114999] ty h tyq184 hq184 := gSg.tr (gSg.ss lp173G sh179 (by decide)) xq184 (by decide) (by decide) (fun x hx => by cases hx)
                  have t186 : tyq184 x = 71 := gSg.typ xq184 sh179.1 lp173c0 rfl
                  have t187 : tyq184 sk = 56 := gSg.typ xq184 sh179.1 lp173c1 rfl
                  have t188 : tyq184 c150 = 73 := gSg.typ xq184 sh179.1 lp173c2 rfl
                  have t189 : tyq184 bv2 = 114 := gSg.typ xq184 sh179.1 lp173r1 rfl
                  have hl190 : hq184.2.2.2.1 bv2 = h179.2.2.2.1 bv2 := gSg.len xq184 sh179.1 lp173r1 rfl
                  have s191 := gSg.at xq184 sh179.1 lp173c0 rfl (by decide) lp173k0
                  have s192 := gSg.at xq184 sh179.1 lp173c0 rfl (by decide) lp173k1
                  have s193 := gSg.at xq184 sh179.1 lp173c0 rfl (by decide) lp173k2
                  have s194 := gSg.at xq184 sh179.1 lp173c0 rfl (by decide) lp173k3
                  have s195 := gSg.at xq184 sh179.1 lp173c0 rfl (by decide) lp173k4
                  have s196 := gSg.at xq184 sh179.1 lp173c0 rfl (by decide) lp173k5
                  have s197 := gSg.at xq184 sh179.1 lp173c0 rfl (by decide) lp173k6
                  have s198 := gSg.at xq184 sh179.1 lp173c0 rfl (by decide) lp173k10
                  have pr199 := gTab.gr xq184 sh179.1 rfl rfl (fun _ => rfl) (fun _ => rfl) (by decide) (by decide) (by decide) (by decide) lp173k11
                  have pr200 := gRn.gr xq184 sh179.1 rfl (by decide) (by decide) lp173k12
                  have pr201 := gJv.gr xq184 sh179.1 (by decide) lp173k15
                  have uq202 := gSg.uq xq184 lp173u (by decide)
                  have sS203 : gSs rT 1027 tyq184 [56000, 56001, 56002, 56003, 71013, 71014, 114999] hq184 hq184 := gSs.rf xq184.1
                  refine gz_s 2 (pc' := 143) (L' := [some (.ref x), some (.int (zi p)), some (.int (zi zq1)), some (.int (zi rn2)), some (.int (zi k)), some (.int (zi z152)), some (.int (zi (zq154 / 2 ^ (lw).toNat)))]) (S' := [.int (zi z152), .ref x]) rfl ?_
                  have jn204 : ∀ (jn204v0 : Int), ((0 ≤ jn204v0) ∧ (jn204v0 ≤ 1) ∧ (z152 < 0 → jn204v0 = 0) ∧ (0 ≤ z152 → jn204v0 = 1)) → gz gPP gGG gcn (d + 5) gt117 151 [some (.ref x), some (.int (zi p)), some (.int (zi zq1)), some (.int (zi rn2)), some (.int (zi k)), some (.int (zi z152)), some (.int (zi (zq154 / 2 ^ (lw).toNat)))] [.int (zi jn204v0), .ref x] hq184 (fun q _ => ∃ ty9 : Nat → Nat, gSg [114] [] [56000, 56001, 56002, 56003, 71013, 71014, 114999] ty h ty9 q.2.2 ∧ ∃ bt2 : Nat, True ∧ ∃ c1 u1 h1 : Int, q.2.2.2.2.2.2 sk 0 = .ref bt2 ∧ ty9 bt2 = 114 ∧ gfin gt117 q.1 q.2.1 = some none ∧ q.2.2.2.2.2.2 sk 1 = .int (zi c1) ∧ 0 ≤ c1 ∧ c1 ≤ 500000 ∧ q.2.2.2.2.2.2 sk 2 = .int (zi u1) ∧ 0 ≤ u1 ∧ u1 ≤ 127 ∧ q.2.2.2.2.2.2 sk 3 = .int (zi h1) ∧ 0 ≤ h1 ∧ h1 ≤ 7 ∧ (c1 = (eeRz (ewS ec79) eeN lw cf p fr tt sg).1) ∧ (u1 = (eeRz (ewS ec79) eeN lw cf p fr tt sg).2.1) ∧ (h1 = (eeRz (ewS ec79) eeN lw cf p fr tt sg).2.2.1) ∧ (4 * c1 + h1 ≤ 4 * c0 + h0 + 320 * (tt - fr + 1)) ∧ (c0 ≤ c1) ∧ (1024 * ((q.2.2.1 : Int) - h.1) ≤ (q.2.2.2.2.2.1 bt2 : Int) - h.2.2.2.1 bt) ∧ (((q.2.2.2.1 : Int) - h.2.1) ≤ 2 * ((q.2.2.2.2.2.1 bt2 : Int) - h.2.2.2.1 bt)) ∧ ((h.2.2.2.1 bt : Int) ≤ (q.2.2.2.2.2.1 bt2 : Int)) ∧ (c1 ≤ (q.2.2.2.2.2.1 bt2 : Int)) ∧ (gSW ty9 bt2 (eeRz (ewS ec79) eeN lw cf p fr tt sg) q.2.2) ∧ (eeOk (eeRz (ewS ec79) eeN lw cf p fr tt sg))) := by
                    intro jn204v0 jn204d
                    refine gz_s 1 (pc' := 152) (L' := [some (.ref x), some (.int (zi p)), some (.int (zi zq1)), some (.int (zi rn2)), some (.int (zi k)), some (.int (zi z152)), some (.int (zi (zq154 / 2 ^ (lw).toNat)))]) (S' := [.int (zi 1), .int (zi jn204v0), .ref x]) rfl ?_
                    have hRq := hRv jn204v0 ((Int.lt_or_le z152 0).elim (fun w => (jn204d.2.2.1 w).trans (if_pos w).symm) (fun w => (jn204d.2.2.2 w).trans (if_neg (Int.not_lt.mpr w)).symm))
                    have hja : 0 ≤ jn204v0 := jn204d.1
                    have hjb : jn204v0 ≤ 1 := jn204d.2.1
                    clear jn204d hRv
                    have hl205 : hq184.2.2.2.1 cq184_0 = hq184.2.2.2.1 cq184_0 := congrFun sS203.2.2.2.2.1 cq184_0
                    refine gz_call rfl (by decide) rfl (by decide) (by decide) (gcal_of rfl rfl rfl (Nat.le_of_ble_eq_true rfl) (gJ.recv (G := gGG) sS203.1 t186 rfl rfl)) (cw_putPlain _ sS203.1 x t186 jn204v0 ⟨by omega, by omega⟩ 1 ⟨by omega, by omega⟩ sk s191 t187 cq184_0 ecq184_0 tcq184_0 fq184_0 efq184_0 ⟨by omega, by omega⟩ fq184_1 efq184_1 ⟨afq184_1, bfq184_1⟩ fq184_2 efq184_2 ⟨afq184_2, bfq184_2⟩ cg s192 rcg (ewS ec79 ((16 * rn2) + 1) ew.2.2.2) (Int.le_antisymm (by omega) (by omega)) (Int.le_antisymm (by omega) (by omega)) (Int.le_antisymm (by omega) (by omega)) (by omega) (by omega) uq202 yq184_0 yq184_1) (fun q206 _ wq206 => ?_)
                    obtain ⟨pq206, oq206, hq206⟩ := q206
                    obtain ⟨tyq206, xq206, cq206_0, ttq206, fq206_0, fq206_1, fq206_2, ecq206_0, tcq206_0, gq206, efq206_0, afq206_0, bfq206_0, efq206_1, afq206_1, bfq206_1, efq206_2, afq206_2, bfq206_2, uq206_0, uq206_1, uq206_2, uq206_3, uq206_4, uq206_5, uq206_6, uq206_7, uq206_8, yq206_0, yq206_1⟩ := wq206
                    dsimp only at uq206_5 uq206_6 uq206_7 uq206_8
                    have ch206a := ch_a ch184a uq206_3
                    have ch206b := Int.le_trans ch184b uq206_4
                    have ch206c := ch_c ch184c uq206_5
                    have ch206d := ch_d ch184d uq206_6
                    have ch206e := Int.le_trans ch184e uq206_7
                    clear ch184a ch184b uq206_3 uq206_4 ch184c ch184d ch184e uq184_8 uq206_5 uq206_6 uq206_7 afq184_0 bfq184_0 afq184_1 bfq184_1 afq184_2 bfq184_2 uq184_0 uq184_1 uq184_2 hl190 hl205
                    refine ⟨_, gq206, ?_⟩
                    show gz gPP gGG gcn _ _ 155 [some (.ref x), some (.int (zi p)), some (.int (zi zq1)), some (.int (zi rn2)), some (.int (zi k)), some (.int (zi z152)), some (.int (zi (zq154 / 2 ^ (lw).toNat)))] [] hq206 _
                    have G207 : gSg [114] [] [56000, 56001, 56002, 56003, 71013, 71014, 114999] ty h tyq206 hq206 := gSg.tr (gSg.ss G185 sS203 (by decide)) xq206 (by decide) (by decide) (fun x hx => by cases hx)
                    have t208 : tyq206 x = 71 := gSg.typ xq206 sS203.1 t186 rfl
                    have t209 : tyq206 sk = 56 := gSg.typ xq206 sS203.1 t187 rfl
                    have t210 : tyq206 c150 = 73 := gSg.typ xq206 sS203.1 t188 rfl
                    have t211 : tyq206 bv2 = 114 := gSg.typ xq206 sS203.1 t189 rfl
                    have hl212 : hq206.2.2.2.1 bv2 = hq184.2.2.2.1 bv2 := gSg.len xq206 sS203.1 t189 rfl
                    have t213 : tyq206 cq184_0 = 114 := gSg.typ xq206 sS203.1 tcq184_0 rfl
                    have hl214 : hq206.2.2.2.1 cq184_0 = hq184.2.2.2.1 cq184_0 := gSg.len xq206 sS203.1 tcq184_0 rfl
                    have s215 := gSg.at xq206 sS203.1 t186 rfl (by decide) s191
                    have s216 := gSg.at xq206 sS203.1 t186 rfl (by decide) s192
                    have s217 := gSg.at xq206 sS203.1 t186 rfl (by decide) s193
                    have s218 := gSg.at xq206 sS203.1 t186 rfl (by decide) s194
                    have s219 := gSg.at xq206 sS203.1 t186 rfl (by decide) s195
                    have s220 := gSg.at xq206 sS203.1 t186 rfl (by decide) s196
                    have s221 := gSg.at xq206 sS203.1 t186 rfl (by decide) s197
                    have s222 := gSg.at xq206 sS203.1 t186 rfl (by decide) s198
                    have pr223 := gTab.gr xq206 sS203.1 rfl rfl (fun _ => rfl) (fun _ => rfl) (by decide) (by decide) (by decide) (by decide) pr199
                    have pr224 := gRn.gr xq206 sS203.1 rfl (by decide) (by decide) pr200
                    have pr225 := gJv.gr xq206 sS203.1 (by decide) pr201
                    have uq226 := gSg.uq xq206 uq202 (by decide)
                    have sS227 : gSs rT 1027 tyq206 [56000, 56001, 56002, 56003, 71013, 71014, 114999] hq206 hq206 := gSs.rf xq206.1
                    have hwq228e : Int.toNat wv2 = ew.2.2.1 := (congrArg Int.toNat lp173f9).trans (Int.toNat_natCast _)
                    have hwq228 : gJv tyq206 x ew.2.1 (Int.toNat wv2) hq206 := by rw [hwq228e]; exact pr225
                    refine gz_s 1 (pc' := 156) (L' := [some (.ref x), some (.int (zi p)), some (.int (zi zq1)), some (.int (zi rn2)), some (.int (zi k)), some (.int (zi z152)), some (.int (zi (zq154 / 2 ^ (lw).toNat)))]) (S' := [.ref x]) rfl ?_
                    have hl229 : hq206.2.2.2.1 cq206_0 = hq206.2.2.2.1 cq206_0 := congrFun sS227.2.2.2.2.1 cq206_0
                    refine gz_call rfl (by decide) rfl (by decide) (by decide) (gcal_of rfl rfl rfl (Nat.le_of_ble_eq_true rfl) (gJ.recv (G := gGG) sS227.1 t208 rfl rfl)) (cw_putWaiting _ sS227.1 x t208 sk s215 t209 cq206_0 ecq206_0 tcq206_0 fq206_0 efq206_0 ⟨by omega, by omega⟩ fq206_1 efq206_1 ⟨afq206_1, bfq206_1⟩ fq206_2 efq206_2 ⟨afq206_2, bfq206_2⟩ cg s216 rcg wv2 s222 lp173f4 (eeN jn204v0 (Int.toNat 1) (ewS ec79 ((16 * rn2) + 1) ew.2.2.2)) ew.2.1 (Int.le_antisymm (by omega) (by omega)) (Int.le_antisymm (by omega) (by omega)) (Int.le_antisymm (by omega) (by omega)) (by omega) (by omega) uq226 yq206_0 yq206_1 hwq228) (fun q230 _ wq230 => ?_)
                    obtain ⟨pq230, oq230, hq230⟩ := q230
                    obtain ⟨tyq230, xq230, cq230_0, ttq230, fq230_0, fq230_1, fq230_2, fq230_3, ecq230_0, tcq230_0, gq230, efq230_0, afq230_0, bfq230_0, efq230_1, afq230_1, bfq230_1, efq230_2, afq230_2, bfq230_2, efq230_3, afq230_3, bfq230_3, uq230_0, uq230_1, uq230_2, uq230_3, uq230_4, uq230_5, uq230_6, uq230_7, uq230_8, uq230_9, yq230_0, yq230_1, yq230_2⟩ := wq230
                    dsimp only at uq230_5 uq230_6 uq230_7 uq230_9
                    have ch230a := ch_a ch206a uq230_3
                    have ch230b := Int.le_trans ch206b uq230_4
                    have ch230c := ch_c ch206c uq230_5
                    have ch230d := ch_d ch206d uq230_6
                    have ch230e := Int.le_trans ch206e uq230_7
                    clear ch206a ch206b uq230_3 uq230_4 ch206c ch206d ch206e uq206_8 uq230_5 uq230_6 uq230_7 afq206_0 bfq206_0 afq206_1 bfq206_1 afq206_2 bfq206_2 uq206_0 uq206_1 uq206_2 hl212 hl214 hl229
                    refine ⟨_, gq230, ?_⟩
                    show gz gPP gGG gcn _ _ 159 [some (.ref x), some (.int (zi p)), some (.int (zi zq1)), some (.int (zi rn2)), some (.int (zi k)), some (.int (zi z152)), some (.int (zi (zq154 / 2 ^ (lw).toNat)))] [] hq230 _
                    have G231 : gSg [114] [] [56000, 56001, 56002, 56003, 71013, 71014, 114999] ty h tyq230 hq230 := gSg.tr (gSg.ss G207 sS227 (by decide)) xq230 (by decide) (by decide) (fun x hx => by cases hx)
                    have t232 : tyq230 x = 71 := gSg.typ xq230 sS227.1 t208 rfl
                    have t233 : tyq230 sk = 56 := gSg.typ xq230 sS227.1 t209 rfl
                    have t234 : tyq230 c150 = 73 := gSg.typ xq230 sS227.1 t210 rfl
                    have t235 : tyq230 bv2 = 114 := gSg.typ xq230 sS227.1 t211 rfl
                    have hl236 : hq230.2.2.2.1 bv2 = hq206.2.2.2.1 bv2 := gSg.len xq230 sS227.1 t211 rfl
                    have t237 : tyq230 cq184_0 = 114 := gSg.typ xq230 sS227.1 t213 rfl
                    have hl238 : hq230.2.2.2.1 cq184_0 = hq206.2.2.2.1 cq184_0 := gSg.len xq230 sS227.1 t213 rfl
                    have t239 : tyq230 cq206_0 = 114 := gSg.typ xq230 sS227.1 tcq206_0 rfl
                    have hl240 : hq230.2.2.2.1 cq206_0 = hq206.2.2.2.1 cq206_0 := gSg.len xq230 sS227.1 tcq206_0 rfl
                    have s241 := gSg.at xq230 sS227.1 t208 rfl (by decide) s215
                    have s242 := gSg.at xq230 sS227.1 t208 rfl (by decide) s216
                    have s243 := gSg.at xq230 sS227.1 t208 rfl (by decide) s217
                    have s244 := gSg.at xq230 sS227.1 t208 rfl (by decide) s218
                    have s245 := gSg.at xq230 sS227.1 t208 rfl (by decide) s219
                    have s246 := gSg.at xq230 sS227.1 t208 rfl (by decide) s220
                    have s247 := gSg.at xq230 sS227.1 t208 rfl (by decide) s221
                    have pr248 := gTab.gr xq230 sS227.1 rfl rfl (fun _ => rfl) (fun _ => rfl) (by decide) (by decide) (by decide) (by decide) pr223
                    have pr249 := gRn.gr xq230 sS227.1 rfl (by decide) (by decide) pr224
                    have pr250 := gJv.gr xq230 sS227.1 (by decide) hwq228
                    have uq251 := gSg.uq xq230 uq226 (by decide)
                    have sS252 : gSs rT 1027 tyq230 [56000, 56001, 56002, 56003, 71013, 71014, 114999] hq230 hq230 := gSs.rf xq230.1
                    have hk253 : eeN ew.2.1 ew.2.2.1 (eeN jn204v0 (Int.toNat 1) (ewS ec79 ((16 * rn2) + 1) ew.2.2.2)) = eeN ew.2.1 (Int.toNat wv2) (eeN jn204v0 (Int.toNat 1) (ewS ec79 ((16 * rn2) + 1) ew.2.2.2)) := by rw [hwq228e]
                    have hk253_1 : (eeN ew.2.1 ew.2.2.1 (eeN jn204v0 (Int.toNat 1) (ewS ec79 ((16 * rn2) + 1) ew.2.2.2))).1 = (eeN ew.2.1 (Int.toNat wv2) (eeN jn204v0 (Int.toNat 1) (ewS ec79 ((16 * rn2) + 1) ew.2.2.2))).1 := by rw [hk253]
                    have hk253_21 : (eeN ew.2.1 ew.2.2.1 (eeN jn204v0 (Int.toNat 1) (ewS ec79 ((16 * rn2) + 1) ew.2.2.2))).2.1 = (eeN ew.2.1 (Int.toNat wv2) (eeN jn204v0 (Int.toNat 1) (ewS ec79 ((16 * rn2) + 1) ew.2.2.2))).2.1 := by rw [hk253]
                    have hk253_221 : (eeN ew.2.1 ew.2.2.1 (eeN jn204v0 (Int.toNat 1) (ewS ec79 ((16 * rn2) + 1) ew.2.2.2))).2.2.1 = (eeN ew.2.1 (Int.toNat wv2) (eeN jn204v0 (Int.toNat 1) (ewS ec79 ((16 * rn2) + 1) ew.2.2.2))).2.2.1 := by rw [hk253]
                    have hsw254 : gSW tyq230 cq230_0 (eeN ew.2.1 ew.2.2.1 (eeN jn204v0 (Int.toNat 1) (ewS ec79 ((16 * rn2) + 1) ew.2.2.2))) hq230 := by rw [hk253]; exact yq230_0
                    have hok255 : eeOk (eeN ew.2.1 ew.2.2.1 (eeN jn204v0 (Int.toNat 1) (ewS ec79 ((16 * rn2) + 1) ew.2.2.2))) := by rw [hk253]; exact yq230_1
                    have hoc256 := hok255.cur
                    refine gz_s 2 (pc' := 161) (L' := [some (.ref x), some (.int (zi p)), some (.int (zi zq1)), some (.int (zi 0)), some (.int (zi k)), some (.int (zi z152)), some (.int (zi (zq154 / 2 ^ (lw).toNat)))]) (S' := []) rfl ?_
                    have hR : eeRk (ewS ec79) eeN lw cf p fr tt sg (k + 1) = (0, ew.2.1, 0, eeN ew.2.1 ew.2.2.1 (eeN jn204v0 (Int.toNat 1) (ewS ec79 ((16 * rn2) + 1) ew.2.2.2))) := hRq
                    have hR_1 : (eeRk (ewS ec79) eeN lw cf p fr tt sg (k + 1)).1 = 0 := by rw [hR]
                    have hR_21 : (eeRk (ewS ec79) eeN lw cf p fr tt sg (k + 1)).2.1 = ew.2.1 := by rw [hR]
                    have hR_221 : (eeRk (ewS ec79) eeN lw cf p fr tt sg (k + 1)).2.2.1 = 0 := by rw [hR]
                    have hk257 : (eeRk (ewS ec79) eeN lw cf p fr tt sg (k + 1)).2.2.2 = eeN ew.2.1 ew.2.2.1 (eeN jn204v0 (Int.toNat 1) (ewS ec79 ((16 * rn2) + 1) ew.2.2.2)) := by rw [hR]
                    have hk257_1 : ((eeRk (ewS ec79) eeN lw cf p fr tt sg (k + 1)).2.2.2).1 = (eeN ew.2.1 ew.2.2.1 (eeN jn204v0 (Int.toNat 1) (ewS ec79 ((16 * rn2) + 1) ew.2.2.2))).1 := by rw [hk257]
                    have hk257_21 : ((eeRk (ewS ec79) eeN lw cf p fr tt sg (k + 1)).2.2.2).2.1 = (eeN ew.2.1 ew.2.2.1 (eeN jn204v0 (Int.toNat 1) (ewS ec79 ((16 * rn2) + 1) ew.2.2.2))).2.1 := by rw [hk257]
                    have hk257_221 : ((eeRk (ewS ec79) eeN lw cf p fr tt sg (k + 1)).2.2.2).2.2.1 = (eeN ew.2.1 ew.2.2.1 (eeN jn204v0 (Int.toNat 1) (ewS ec79 ((16 * rn2) + 1) ew.2.2.2))).2.2.1 := by rw [hk257]
                    have hsw258 : gSW tyq230 cq230_0 ((eeRk (ewS ec79) eeN lw cf p fr tt sg (k + 1)).2.2.2) hq230 := by rw [hk257]; exact hsw254
                    have hok259 : eeOk ((eeRk (ewS ec79) eeN lw cf p fr tt sg (k + 1)).2.2.2) := by rw [hk257]; exact hok255
                    have hoc260 := hok259.cur
                    have hwq261 : gJv tyq230 x (eeRk (ewS ec79) eeN lw cf p fr tt sg (k + 1)).2.1 (eeRk (ewS ec79) eeN lw cf p fr tt sg (k + 1)).2.2.1 hq230 := by rw [hR]; exact yq230_2
                    refine gy_s 2 (pc' := 19) (L' := [some (.ref x), some (.int (zi p)), some (.int (zi zq1)), some (.int (zi 0)), some (.int ((zi k) + zi 1)), some (.int (zi z152)), some (.int (zi (zq154 / 2 ^ (lw).toNat)))]) (S' := []) (L2 := [some (.ref x), some (.int (zi p)), some (.int (zi zq1)), some (.int (zi 0)), some (.int (zi (k + 1))), some (.int (zi z152)), some (.int (zi (zq154 / 2 ^ (lw).toNat)))]) (S2 := []) rfl (by simp only [zi_add, zi_sub, zi_mul, zi_neg, zi_and1, zi_and7, zi_and15, zi_and31, zi_and255]) (by simp only [zi_add, zi_sub, zi_mul, zi_neg, zi_and1, zi_and7, zi_and15, zi_and31, zi_and255]) ?_
                    have hl262 : 1024 ≤ hq230.2.2.2.1 bv2 ∧ hq230.2.2.2.1 bv2 ≤ 1000000 := gJ.rowl (G := gGG) sS252.1 t235 rfl
                    have hl263 : 1024 ≤ hq230.2.2.2.1 cq184_0 ∧ hq230.2.2.2.1 cq184_0 ≤ 1000000 := gJ.rowl (G := gGG) sS252.1 t237 rfl
                    have hl264 : 1024 ≤ hq230.2.2.2.1 cq206_0 ∧ hq230.2.2.2.1 cq206_0 ≤ 1000000 := gJ.rowl (G := gGG) sS252.1 t239 rfl
                    have hl265 : 1024 ≤ hq230.2.2.2.1 cq230_0 ∧ hq230.2.2.2.1 cq230_0 ≤ 1000000 := gJ.rowl (G := gGG) sS252.1 tcq230_0 rfl
                    have G266 : gSg [114] [] [56000, 56001, 56002, 56003, 71013, 71014, 114999] ty h tyq230 hq230 := gSg.ss G231 sS252 (by decide)
                    clear uq154_0 uq154_1 hwq228e
                    exact gz_wk (ihlp29 tyq230 hq230 cq230_0 0 (k + 1) fq230_0 fq230_1 fq230_2 fq230_3 (gms lp29m (by omega) (by omega)) G266 uq251 t232 t233 ecq230_0 tcq230_0 ⟨by omega, by omega⟩ ⟨by omega, by omega⟩ ⟨by omega, by omega⟩ ⟨afq230_1, bfq230_1⟩ ⟨afq230_2, bfq230_2⟩ ⟨afq230_3, bfq230_3⟩ (Int.le_antisymm (by omega) (by omega)) (Int.le_antisymm (by omega) (by omega)) (by omega) (by omega) (by omega) (Int.le_antisymm (by omega) (by omega)) (Int.le_antisymm (by omega) (by omega)) (Int.le_antisymm (by omega) (by omega)) (by omega) (by omega) (by omega) (by omega) (by omega) (by omega) s241 s242 s243 s244 s245 s246 efq230_0 efq230_1 efq230_2 efq230_3 pr248 pr249 hsw258 hok259 hwq261) (gLw.s (gLw.s (gLw.s (gLw.s (gLw.s (gLw.n (gLw.n gLw.z)))))))
                  by_cases hc267 : (0 : Int) ≤ z152
                  · refine gy_ifT (pc' := 150) rfl (by decide) (by decide) (by omega) hc267 ?_
                    refine gz_s 1 (pc' := 151) (L' := [some (.ref x), some (.int (zi p)), some (.int (zi zq1)), some (.int (zi rn2)), some (.int (zi k)), some (.int (zi z152)), some (.int (zi (zq154 / 2 ^ (lw).toNat)))]) (S' := [.int (zi 1), .ref x]) rfl ?_
                    exact jn204 1 (by omega)
                  · refine gy_ifF rfl (by decide) (by decide) (by omega) hc267 ?_
                    refine gz_s 2 (pc' := 151) (L' := [some (.ref x), some (.int (zi p)), some (.int (zi zq1)), some (.int (zi rn2)), some (.int (zi k)), some (.int (zi z152)), some (.int (zi (zq154 / 2 ^ (lw).toNat)))]) (S' := [.int (zi 0), .ref x]) rfl ?_
                    exact jn204 0 (by omega)
                · refine gy_icF rfl (by decide) (by decide) (by omega) (by omega) hc182 ?_
                  refine gz_s 1 (pc' := 99) (L' := [some (.ref x), some (.int (zi p)), some (.int (zi zq1)), some (.int (zi rn2)), some (.int (zi k)), some (.int (zi z152)), some (.int (zi (zq154 / 2 ^ (lw).toNat)))]) (S' := [.ref x]) rfl ?_
                  refine gz_1 rfl (by decide) rfl rfl (pc' := 102) (S' := [.long (zl 2), .ref x]) (h' := h179) rfl ?_
                  refine gz_s 1 (pc' := 103) (L' := [some (.ref x), some (.int (zi p)), some (.int (zi zq1)), some (.int (zi rn2)), some (.int (zi k)), some (.int (zi z152)), some (.int (zi (zq154 / 2 ^ (lw).toNat)))]) (S' := [.ref x, .long (zl 2), .ref x]) rfl ?_
                  refine gs_getl rfl (by decide) rfl sh179.1 lp173c0 rfl rfl rfl (fun z268 ez268 az268 bz268 => ?_)
                  refine gy_s 1 (pc' := 107) (L' := [some (.ref x), some (.int (zi p)), some (.int (zi zq1)), some (.int (zi rn2)), some (.int (zi k)), some (.int (zi z152)), some (.int (zi (zq154 / 2 ^ (lw).toNat)))]) (S' := [.long ((zl 2) * (zl z268)), .ref x]) (L2 := [some (.ref x), some (.int (zi p)), some (.int (zi zq1)), some (.int (zi rn2)), some (.int (zi k)), some (.int (zi z152)), some (.int (zi (zq154 / 2 ^ (lw).toNat)))]) (S2 := [.long (zl (2 * z268)), .ref x]) rfl (by simp only [zi_add, zi_sub, zi_mul, zi_neg, zi_and1, zi_and7, zi_and15, zi_and31, zi_and255, zl_add, zl_sub, zl_mul, zl_neg]) (by simp only [zi_add, zi_sub, zi_mul, zi_neg, zi_and1, zi_and7, zi_and15, zi_and31, zi_and255, zl_add, zl_sub, zl_mul, zl_neg]) ?_
                  refine gy_lany (fun z269 ez269 az269 bz269 => ?_)
                  refine gy_s 3 (pc' := 111) (L' := [some (.ref x), some (.int (zi p)), some (.int (zi zq1)), some (.int (zi rn2)), some (.int (zi k)), some (.int (zi z152)), some (.int (zi (zq154 / 2 ^ (lw).toNat)))]) (S' := [.int ((zi (zq154 / 2 ^ (lw).toNat)) &&& (zi 1)), .long (zl z269), .ref x]) (L2 := [some (.ref x), some (.int (zi p)), some (.int (zi zq1)), some (.int (zi rn2)), some (.int (zi k)), some (.int (zi z152)), some (.int (zi (zq154 / 2 ^ (lw).toNat)))]) (S2 := [.int (zi ((zq154 / 2 ^ (lw).toNat) % 2)), .long (zl z269), .ref x]) rfl (by simp only [zi_add, zi_sub, zi_mul, zi_neg, zi_and1, zi_and7, zi_and15, zi_and31, zi_and255, zl_add, zl_sub, zl_mul, zl_neg]) (by simp only [zi_add, zi_sub, zi_mul, zi_neg, zi_and1, zi_and7, zi_and15, zi_and31, zi_and255, zl_add, zl_sub, zl_mul, zl_neg]) ?_
                  refine gy_i2l rfl (by decide) ⟨by omega, by omega⟩ ?_
                  refine gy_s 1 (pc' := 113) (L' := [some (.ref x), some (.int (zi p)), some (.int (zi zq1)), some (.int (zi rn2)), some (.int (zi k)), some (.int (zi z152)), some (.int (zi (zq154 / 2 ^ (lw).toNat)))]) (S' := [.long ((zl z269) + (zl ((zq154 / 2 ^ (lw).toNat) % 2))), .ref x]) (L2 := [some (.ref x), some (.int (zi p)), some (.int (zi zq1)), some (.int (zi rn2)), some (.int (zi k)), some (.int (zi z152)), some (.int (zi (zq154 / 2 ^ (lw).toNat)))]) (S2 := [.long (zl (z269 + ((zq154 / 2 ^ (lw).toNat) % 2))), .ref x]) rfl (by simp only [zi_add, zi_sub, zi_mul, zi_neg, zi_and1, zi_and7, zi_and15, zi_and31, zi_and255, zl_add, zl_sub, zl_mul, zl_neg]) (by simp only [zi_add, zi_sub, zi_mul, zi_neg, zi_and1, zi_and7, zi_and15, zi_and31, zi_and255, zl_add, zl_sub, zl_mul, zl_neg]) ?_
                  refine gy_lany (fun z270 ez270 az270 bz270 => ?_)
                  refine gs_putl rfl (by decide) rfl sh179 lp173c0 rfl rfl rfl rfl (Or.inl rfl) (by decide) (by omega) (by omega) (fun h271 sh271 eh271 fh271 => ?_)
                  have pr272 := gTab.pt fh271 lp173c0 (by decide) (by decide) lp173k11
                  have pr273 := gRn.pt fh271 lp173c0 (by decide) lp173k12
                  have pr274 := gSW.pt fh271 lp173c0 (by decide) lp173k13
                  have s275 := (fh271 x 0 (fun q => absurd q.2 (by decide))).trans lp173k0
                  have s276 := (fh271 x 11 (fun q => absurd q.2 (by decide))).trans lp173k1
                  have s277 := (fh271 x 7 (fun q => absurd q.2 (by decide))).trans lp173k2
                  have s278 := (fh271 x 8 (fun q => absurd q.2 (by decide))).trans lp173k3
                  have s279 := (fh271 x 10 (fun q => absurd q.2 (by decide))).trans lp173k4
                  have s280 := (fh271 x 5 (fun q => absurd q.2 (by decide))).trans lp173k5
                  have s281 := (fh271 x 2 (fun q => absurd q.2 (by decide))).trans lp173k6
                  have s282 := (fh271 sk 1 (fun q => absurd q.2 (by decide))).trans lp173k7
                  have s283 := (fh271 sk 2 (fun q => absurd q.2 (by decide))).trans lp173k8
                  have s284 := (fh271 sk 3 (fun q => absurd q.2 (by decide))).trans lp173k9
                  have s285 := (fh271 x 14 (fun q => absurd q.2 (by decide))).trans lp173k10
                  have s286 := (fh271 sk 0 (fun q => absurd q.2 (by decide))).trans lp173r0
                  have hwq287 : gJv ty180 x (2 * ew.2.1 + (zq154 / 2 ^ (lw).toNat) % 2) (ew.2.2.1 + 1) h271 := gJv.put (b := (zq154 / 2 ^ (lw).toNat) % 2) lp173k15 (by omega) ez268 (zl_tw ez269 ez270) eh271
                  refine gz_s 2 (pc' := 118) (L' := [some (.ref x), some (.int (zi p)), some (.int (zi zq1)), some (.int (zi rn2)), some (.int (zi k)), some (.int (zi z152)), some (.int (zi (zq154 / 2 ^ (lw).toNat)))]) (S' := [.ref x, .ref x]) rfl ?_
                  refine gs_gtk rfl (by decide) rfl sh271.1 lp173c0 rfl rfl s285 ?_
                  refine gy_s 2 (pc' := 123) (L' := [some (.ref x), some (.int (zi p)), some (.int (zi zq1)), some (.int (zi rn2)), some (.int (zi k)), some (.int (zi z152)), some (.int (zi (zq154 / 2 ^ (lw).toNat)))]) (S' := [.int ((zi wv2) + (zi 1)), .ref x]) (L2 := [some (.ref x), some (.int (zi p)), some (.int (zi zq1)), some (.int (zi rn2)), some (.int (zi k)), some (.int (zi z152)), some (.int (zi (zq154 / 2 ^ (lw).toNat)))]) (S2 := [.int (zi (wv2 + 1)), .ref x]) rfl (by simp only [zi_add, zi_sub, zi_mul, zi_neg, zi_and1, zi_and7, zi_and15, zi_and31, zi_and255]) (by simp only [zi_add, zi_sub, zi_mul, zi_neg, zi_and1, zi_and7, zi_and15, zi_and31, zi_and255]) ?_
                  refine gs_put rfl (by decide) rfl sh271 lp173c0 rfl rfl rfl rfl (Or.inl rfl) (by decide) (by omega) (by omega) (fun h288 sh288 eh288 fh288 => ?_)
                  have pr289 := gTab.pt fh288 lp173c0 (by decide) (by decide) pr272
                  have pr290 := gRn.pt fh288 lp173c0 (by decide) pr273
                  have pr291 := gSW.pt fh288 lp173c0 (by decide) pr274
                  have pr292 := gJv.pk fh288 (sh288.2.2.2.2.1.trans sh271.2.2.2.2.1.symm) lp173c0 (by decide) hwq287
                  have s293 := (fh288 x 0 (fun q => absurd q.2 (by decide))).trans s275
                  have s294 := (fh288 x 11 (fun q => absurd q.2 (by decide))).trans s276
                  have s295 := (fh288 x 7 (fun q => absurd q.2 (by decide))).trans s277
                  have s296 := (fh288 x 8 (fun q => absurd q.2 (by decide))).trans s278
                  have s297 := (fh288 x 10 (fun q => absurd q.2 (by decide))).trans s279
                  have s298 := (fh288 x 5 (fun q => absurd q.2 (by decide))).trans s280
                  have s299 := (fh288 x 2 (fun q => absurd q.2 (by decide))).trans s281
                  have s300 := (fh288 sk 1 (fun q => absurd q.2 (by decide))).trans s282
                  have s301 := (fh288 sk 2 (fun q => absurd q.2 (by decide))).trans s283
                  have s302 := (fh288 sk 3 (fun q => absurd q.2 (by decide))).trans s284
                  have s303 := (fh288 sk 0 (fun q => absurd q.2 (by decide))).trans s286
                  have s304 := (fh288 x 13 (fun q => absurd q.2 (by decide))).trans eh271
                  refine gz_s 1 (pc' := 161) (L' := [some (.ref x), some (.int (zi p)), some (.int (zi zq1)), some (.int (zi rn2)), some (.int (zi k)), some (.int (zi z152)), some (.int (zi (zq154 / 2 ^ (lw).toNat)))]) (S' := []) rfl ?_
                  have hR : eeRk (ewS ec79) eeN lw cf p fr tt sg (k + 1) = (ew.1, 2 * ew.2.1 + (zq154 / 2 ^ (lw).toNat) % 2, ew.2.2.1 + 1, ew.2.2.2) := by rw [eeRk_m (a := zq154 / 2 ^ (lw).toNat) (x := rn) (y := rn2) (by omega) (by omega) (by omega) hcf (by rw [hA]) (by omega) (by rw [← her]; exact lp29f6) ⟨by omega, by omega⟩ (e_hmc (Iff.of_eq (congrArg (fun x9 : Int => k ≤ x9) hlk9)) lp173f7 lp173f6 (by omega)), ← her, ← hew]
                  have hR_1 : (eeRk (ewS ec79) eeN lw cf p fr tt sg (k + 1)).1 = ew.1 := by rw [hR]
                  have hR_21 : (eeRk (ewS ec79) eeN lw cf p fr tt sg (k + 1)).2.1 = 2 * ew.2.1 + (zq154 / 2 ^ (lw).toNat) % 2 := by rw [hR]
                  have hR_221 : (eeRk (ewS ec79) eeN lw cf p fr tt sg (k + 1)).2.2.1 = ew.2.2.1 + 1 := by rw [hR]
                  have hk305 : (eeRk (ewS ec79) eeN lw cf p fr tt sg (k + 1)).2.2.2 = ew.2.2.2 := by rw [hR]
                  have hk305_1 : ((eeRk (ewS ec79) eeN lw cf p fr tt sg (k + 1)).2.2.2).1 = (ew.2.2.2).1 := by rw [hk305]
                  have hk305_21 : ((eeRk (ewS ec79) eeN lw cf p fr tt sg (k + 1)).2.2.2).2.1 = (ew.2.2.2).2.1 := by rw [hk305]
                  have hk305_221 : ((eeRk (ewS ec79) eeN lw cf p fr tt sg (k + 1)).2.2.2).2.2.1 = (ew.2.2.2).2.2.1 := by rw [hk305]
                  have hsw306 : gSW ty180 bv2 ((eeRk (ewS ec79) eeN lw cf p fr tt sg (k + 1)).2.2.2) h288 := by rw [hk305]; exact pr291
                  have hok307 : eeOk ((eeRk (ewS ec79) eeN lw cf p fr tt sg (k + 1)).2.2.2) := by rw [hk305]; exact lp173k14
                  have hoc308 := hok307.cur
                  have hwq309 : gJv ty180 x (eeRk (ewS ec79) eeN lw cf p fr tt sg (k + 1)).2.1 (eeRk (ewS ec79) eeN lw cf p fr tt sg (k + 1)).2.2.1 h288 := by rw [hR]; exact pr292
                  refine gy_s 2 (pc' := 19) (L' := [some (.ref x), some (.int (zi p)), some (.int (zi zq1)), some (.int (zi rn2)), some (.int ((zi k) + zi 1)), some (.int (zi z152)), some (.int (zi (zq154 / 2 ^ (lw).toNat)))]) (S' := []) (L2 := [some (.ref x), some (.int (zi p)), some (.int (zi zq1)), some (.int (zi rn2)), some (.int (zi (k + 1))), some (.int (zi z152)), some (.int (zi (zq154 / 2 ^ (lw).toNat)))]) (S2 := []) rfl (by simp only [zi_add, zi_sub, zi_mul, zi_neg, zi_and1, zi_and7, zi_and15, zi_and31, zi_and255]) (by simp only [zi_add, zi_sub, zi_mul, zi_neg, zi_and1, zi_and7, zi_and15, zi_and31, zi_and255]) ?_
                  have k310 := sh288.2.1
                  have k310b := sh288.2.2.1
                  have hl311 : h288.2.2.2.1 bv2 = h179.2.2.2.1 bv2 := congrFun sh288.2.2.2.2.1 bv2
                  have hl312 : 1024 ≤ h288.2.2.2.1 bv2 ∧ h288.2.2.2.1 bv2 ≤ 1000000 := gJ.rowl (G := gGG) sh288.1 lp173r1 rfl
                  have G313 : gSg [114] [] [56000, 56001, 56002, 56003, 71013, 71014, 114999] ty h ty180 h288 := gSg.ss lp173G sh288 (by decide)
                  clear uq154_0 uq154_1 lp173f7
                  exact gz_wk (ihlp29 ty180 h288 bv2 rn2 (k + 1) cv2 uv2 hv2 (wv2 + 1) (gms lp29m (by omega) (by omega)) G313 lp173u lp173c0 lp173c1 s303 lp173r1 lp173f0 ⟨by omega, by omega⟩ lp173f1 lp173f2 lp173f3 ⟨by omega, by omega⟩ (Int.le_antisymm (by omega) (by omega)) (Int.le_antisymm (by omega) (by omega)) (by omega) (by omega) (by omega) (Int.le_antisymm (by omega) (by omega)) (Int.le_antisymm (by omega) (by omega)) (Int.le_antisymm (by omega) (by omega)) (by omega) (by omega) (by omega) (by omega) (by omega) (by omega) s293 s294 s295 s296 s297 s298 s300 s301 s302 eh288 pr289 pr290 hsw306 hok307 hwq309) (gLw.s (gLw.s (gLw.s (gLw.s (gLw.s (gLw.n (gLw.n gLw.z)))))))
              · refine gy_icF rfl (by decide) (by decide) (by omega) (by omega) hc181 ?_
                refine gz_s 2 (pc' := 71) (L' := [some (.ref x), some (.int (zi p)), some (.int (zi zq1)), some (.int (zi rn2)), some (.int (zi k)), some (.int (zi z152)), some (.int (zi (zq154 / 2 ^ (lw).toNat)))]) (S' := [.int (zi zq1), .int (zi k)]) rfl ?_
                by_cases hc314 : (zq1 : Int) < k
                · refine gy_icT (pc' := 92) rfl (by decide) (by decide) (by omega) (by omega) hc314 ?_
                  refine gz_s 2 (pc' := 95) (L' := [some (.ref x), some (.int (zi p)), some (.int (zi zq1)), some (.int (zi rn2)), some (.int (zi k)), some (.int (zi z152)), some (.int (zi (zq154 / 2 ^ (lw).toNat)))]) (S' := [.int (zi 1), .int (zi (zq154 / 2 ^ (lw).toNat))]) rfl ?_
                  by_cases hc315 : (zq154 / 2 ^ (lw).toNat : Int) ≤ 1
                  · refine gy_icT (pc' := 129) rfl (by decide) (by decide) (by omega) (by omega) hc315 ?_
                    have h19 : zq154 / 2 ^ (lw).toNat = 1 := Int.le_antisymm (by omega) (by omega)
                    have hk9 : k ≤ eeLk lw cf p fr tt := eeLk_1 (by omega) (by omega) (by omega) (by omega) hcf (by rw [← hA]; exact h19)
                    have hm9 := (e_hmc (Iff.of_eq (congrArg (fun x9 : Int => k ≤ x9) hlk9)) lp173f7 lp173f6 (by omega))
                    have hz15 : rn2 ≤ 15 := hm9.elim (fun w => w.2.1) (fun w => absurd hk9 w.1)
                    have hs9 : (16 * rn2) + 1 = 16 * (rn2 % 16) + 1 := by rw [Int.emod_eq_of_lt (by omega) (by omega)]
                    have hRv : ∀ V9 : Int, (V9 = if z152 < 0 then 0 else 1) → eeRk (ewS ec79) eeN lw cf p fr tt sg (k + 1) = (0, ew.2.1, 0, eeN ew.2.1 ew.2.2.1 (eeN V9 (Int.toNat 1) ((ewS ec79) ((16 * rn2) + 1) ew.2.2.2))) := fun V9 e8 => eeRk_1v (k := k) (v := z152) (a := zq154 / 2 ^ (lw).toNat) (s := (16 * rn2) + 1) (V := V9) (x := rn) (y := rn2) her hew (by omega) (by omega) (by omega) hcf (by rw [hA]) h19 lp29f6 ⟨by omega, by omega⟩ hm9 lp173f8 hs9 e8
                    clear hm9 hs9 lp173f7
                    refine gy_s 7 (pc' := 137) (L' := [some (.ref x), some (.int (zi p)), some (.int (zi zq1)), some (.int (zi rn2)), some (.int (zi k)), some (.int (zi z152)), some (.int (zi (zq154 / 2 ^ (lw).toNat)))]) (S' := [.int (((zi 16) * (zi rn2)) + (zi 1)), .int (zi 1), .ref x]) (L2 := [some (.ref x), some (.int (zi p)), some (.int (zi zq1)), some (.int (zi rn2)), some (.int (zi k)), some (.int (zi z152)), some (.int (zi (zq154 / 2 ^ (lw).toNat)))]) (S2 := [.int (zi ((16 * rn2) + 1)), .int (zi 1), .ref x]) rfl (by simp only [zi_add, zi_sub, zi_mul, zi_neg, zi_and1, zi_and7, zi_and15, zi_and31, zi_and255]) (by simp only [zi_add, zi_sub, zi_mul, zi_neg, zi_and1, zi_and7, zi_and15, zi_and31, zi_and255]) ?_
                    have hl316 : h179.2.2.2.1 bv2 = h179.2.2.2.1 bv2 := congrFun sh179.2.2.2.2.1 bv2
                    refine gz_call rfl (by decide) rfl (by decide) (by decide) (gcal_of rfl rfl rfl (Nat.le_of_ble_eq_true rfl) (gJ.recv (G := gGG) sh179.1 lp173c0 rfl rfl)) (cw_putSymbol1 _ sh179.1 x lp173c0 1 ⟨by omega, by omega⟩ ((16 * rn2) + 1) ⟨by omega, by omega⟩ sk lp173k0 lp173c1 bv2 lp173r0 lp173r1 cv2 lp173k7 lp173f1 uv2 lp173k8 lp173f2 hv2 lp173k9 lp173f3 cg lp173k1 rcg ew.2.2.2 ec79 (Int.le_antisymm (by omega) (by omega)) (Int.le_antisymm (by omega) (by omega)) (Int.le_antisymm (by omega) (by omega)) (by omega) (by omega) lp173u lp173k13 lp173k14 lp173k11) (fun q317 _ wq317 => ?_)
                    obtain ⟨pq317, oq317, hq317⟩ := q317
                    obtain ⟨tyq317, xq317, cq317_0, ttq317, fq317_0, fq317_1, fq317_2, ecq317_0, tcq317_0, gq317, efq317_0, afq317_0, bfq317_0, efq317_1, afq317_1, bfq317_1, efq317_2, afq317_2, bfq317_2, uq317_0, uq317_1, uq317_2, uq317_3, uq317_4, uq317_5, uq317_6, uq317_7, uq317_8, yq317_0, yq317_1⟩ := wq317
                    dsimp only at uq317_5 uq317_6 uq317_7 uq317_8
                    have ch317a := ch_a lp173f14 uq317_3
                    have ch317b := Int.le_trans lp173f15 uq317_4
                    have ch317c := ch_c lp173f16 uq317_5
                    have ch317d := ch_d lp173f17 uq317_6
                    have ch317e := Int.le_trans lp173f18 uq317_7
                    clear lp173f14 lp173f15 uq317_3 uq317_4 lp173f16 lp173f17 lp173f18 lp173f19 uq317_5 uq317_6 uq317_7 hl151 lp173f1 lp173f2 lp173f3 lp173f11 lp173f12 lp173f13 hl316
                    refine ⟨_, gq317, ?_⟩
                    show gz gPP gGG gcn _ _ 140 [some (.ref x), some (.int (zi p)), some (.int (zi zq1)), some (.int (zi rn2)), some (.int (zi k)), some (.int (zi z152)), some (.int (zi (zq154 / 2 ^ (lw).toNat)))] [] hq317 _
                    have G318 : gSg [114] [] [56000, 56001, 56002, 56003, 71013, 71014, 114999] ty h tyq317 hq317 := gSg.tr (gSg.ss lp173G sh179 (by decide)) xq317 (by decide) (by decide) (fun x hx => by cases hx)
                    have t319 : tyq317 x = 71 := gSg.typ xq317 sh179.1 lp173c0 rfl
                    have t320 : tyq317 sk = 56 := gSg.typ xq317 sh179.1 lp173c1 rfl
                    have t321 : tyq317 c150 = 73 := gSg.typ xq317 sh179.1 lp173c2 rfl
                    have t322 : tyq317 bv2 = 114 := gSg.typ xq317 sh179.1 lp173r1 rfl
                    have hl323 : hq317.2.2.2.1 bv2 = h179.2.2.2.1 bv2 := gSg.len xq317 sh179.1 lp173r1 rfl
                    have s324 := gSg.at xq317 sh179.1 lp173c0 rfl (by decide) lp173k0
                    have s325 := gSg.at xq317 sh179.1 lp173c0 rfl (by decide) lp173k1
                    have s326 := gSg.at xq317 sh179.1 lp173c0 rfl (by decide) lp173k2
                    have s327 := gSg.at xq317 sh179.1 lp173c0 rfl (by decide) lp173k3
                    have s328 := gSg.at xq317 sh179.1 lp173c0 rfl (by decide) lp173k4
                    have s329 := gSg.at xq317 sh179.1 lp173c0 rfl (by decide) lp173k5
                    have s330 := gSg.at xq317 sh179.1 lp173c0 rfl (by decide) lp173k6
                    have s331 := gSg.at xq317 sh179.1 lp173c0 rfl (by decide) lp173k10
                    have pr332 := gTab.gr xq317 sh179.1 rfl rfl (fun _ => rfl) (fun _ => rfl) (by decide) (by decide) (by decide) (by decide) lp173k11
                    have pr333 := gRn.gr xq317 sh179.1 rfl (by decide) (by decide) lp173k12
                    have pr334 := gJv.gr xq317 sh179.1 (by decide) lp173k15
                    have uq335 := gSg.uq xq317 lp173u (by decide)
                    have sS336 : gSs rT 1027 tyq317 [56000, 56001, 56002, 56003, 71013, 71014, 114999] hq317 hq317 := gSs.rf xq317.1
                    refine gz_s 2 (pc' := 143) (L' := [some (.ref x), some (.int (zi p)), some (.int (zi zq1)), some (.int (zi rn2)), some (.int (zi k)), some (.int (zi z152)), some (.int (zi (zq154 / 2 ^ (lw).toNat)))]) (S' := [.int (zi z152), .ref x]) rfl ?_
                    have jn337 : ∀ (jn337v0 : Int), ((0 ≤ jn337v0) ∧ (jn337v0 ≤ 1) ∧ (z152 < 0 → jn337v0 = 0) ∧ (0 ≤ z152 → jn337v0 = 1)) → gz gPP gGG gcn (d + 5) gt117 151 [some (.ref x), some (.int (zi p)), some (.int (zi zq1)), some (.int (zi rn2)), some (.int (zi k)), some (.int (zi z152)), some (.int (zi (zq154 / 2 ^ (lw).toNat)))] [.int (zi jn337v0), .ref x] hq317 (fun q _ => ∃ ty9 : Nat → Nat, gSg [114] [] [56000, 56001, 56002, 56003, 71013, 71014, 114999] ty h ty9 q.2.2 ∧ ∃ bt2 : Nat, True ∧ ∃ c1 u1 h1 : Int, q.2.2.2.2.2.2 sk 0 = .ref bt2 ∧ ty9 bt2 = 114 ∧ gfin gt117 q.1 q.2.1 = some none ∧ q.2.2.2.2.2.2 sk 1 = .int (zi c1) ∧ 0 ≤ c1 ∧ c1 ≤ 500000 ∧ q.2.2.2.2.2.2 sk 2 = .int (zi u1) ∧ 0 ≤ u1 ∧ u1 ≤ 127 ∧ q.2.2.2.2.2.2 sk 3 = .int (zi h1) ∧ 0 ≤ h1 ∧ h1 ≤ 7 ∧ (c1 = (eeRz (ewS ec79) eeN lw cf p fr tt sg).1) ∧ (u1 = (eeRz (ewS ec79) eeN lw cf p fr tt sg).2.1) ∧ (h1 = (eeRz (ewS ec79) eeN lw cf p fr tt sg).2.2.1) ∧ (4 * c1 + h1 ≤ 4 * c0 + h0 + 320 * (tt - fr + 1)) ∧ (c0 ≤ c1) ∧ (1024 * ((q.2.2.1 : Int) - h.1) ≤ (q.2.2.2.2.2.1 bt2 : Int) - h.2.2.2.1 bt) ∧ (((q.2.2.2.1 : Int) - h.2.1) ≤ 2 * ((q.2.2.2.2.2.1 bt2 : Int) - h.2.2.2.1 bt)) ∧ ((h.2.2.2.1 bt : Int) ≤ (q.2.2.2.2.2.1 bt2 : Int)) ∧ (c1 ≤ (q.2.2.2.2.2.1 bt2 : Int)) ∧ (gSW ty9 bt2 (eeRz (ewS ec79) eeN lw cf p fr tt sg) q.2.2) ∧ (eeOk (eeRz (ewS ec79) eeN lw cf p fr tt sg))) := by
                      intro jn337v0 jn337d
                      refine gz_s 1 (pc' := 152) (L' := [some (.ref x), some (.int (zi p)), some (.int (zi zq1)), some (.int (zi rn2)), some (.int (zi k)), some (.int (zi z152)), some (.int (zi (zq154 / 2 ^ (lw).toNat)))]) (S' := [.int (zi 1), .int (zi jn337v0), .ref x]) rfl ?_
                      have hRq := hRv jn337v0 ((Int.lt_or_le z152 0).elim (fun w => (jn337d.2.2.1 w).trans (if_pos w).symm) (fun w => (jn337d.2.2.2 w).trans (if_neg (Int.not_lt.mpr w)).symm))
                      have hja : 0 ≤ jn337v0 := jn337d.1
                      have hjb : jn337v0 ≤ 1 := jn337d.2.1
                      clear jn337d hRv
                      have hl338 : hq317.2.2.2.1 cq317_0 = hq317.2.2.2.1 cq317_0 := congrFun sS336.2.2.2.2.1 cq317_0
                      refine gz_call rfl (by decide) rfl (by decide) (by decide) (gcal_of rfl rfl rfl (Nat.le_of_ble_eq_true rfl) (gJ.recv (G := gGG) sS336.1 t319 rfl rfl)) (cw_putPlain _ sS336.1 x t319 jn337v0 ⟨by omega, by omega⟩ 1 ⟨by omega, by omega⟩ sk s324 t320 cq317_0 ecq317_0 tcq317_0 fq317_0 efq317_0 ⟨by omega, by omega⟩ fq317_1 efq317_1 ⟨afq317_1, bfq317_1⟩ fq317_2 efq317_2 ⟨afq317_2, bfq317_2⟩ cg s325 rcg (ewS ec79 ((16 * rn2) + 1) ew.2.2.2) (Int.le_antisymm (by omega) (by omega)) (Int.le_antisymm (by omega) (by omega)) (Int.le_antisymm (by omega) (by omega)) (by omega) (by omega) uq335 yq317_0 yq317_1) (fun q339 _ wq339 => ?_)
                      obtain ⟨pq339, oq339, hq339⟩ := q339
                      obtain ⟨tyq339, xq339, cq339_0, ttq339, fq339_0, fq339_1, fq339_2, ecq339_0, tcq339_0, gq339, efq339_0, afq339_0, bfq339_0, efq339_1, afq339_1, bfq339_1, efq339_2, afq339_2, bfq339_2, uq339_0, uq339_1, uq339_2, uq339_3, uq339_4, uq339_5, uq339_6, uq339_7, uq339_8, yq339_0, yq339_1⟩ := wq339
                      dsimp only at uq339_5 uq339_6 uq339_7 uq339_8
                      have ch339a := ch_a ch317a uq339_3
                      have ch339b := Int.le_trans ch317b uq339_4
                      have ch339c := ch_c ch317c uq339_5
                      have ch339d := ch_d ch317d uq339_6
                      have ch339e := Int.le_trans ch317e uq339_7
                      clear ch317a ch317b uq339_3 uq339_4 ch317c ch317d ch317e uq317_8 uq339_5 uq339_6 uq339_7 afq317_0 bfq317_0 afq317_1 bfq317_1 afq317_2 bfq317_2 uq317_0 uq317_1 uq317_2 hl323 hl338
                      refine ⟨_, gq339, ?_⟩
                      show gz gPP gGG gcn _ _ 155 [some (.ref x), some (.int (zi p)), some (.int (zi zq1)), some (.int (zi rn2)), some (.int (zi k)), some (.int (zi z152)), some (.int (zi (zq154 / 2 ^ (lw).toNat)))] [] hq339 _
                      have G340 : gSg [114] [] [56000, 56001, 56002, 56003, 71013, 71014, 114999] ty h tyq339 hq339 := gSg.tr (gSg.ss G318 sS336 (by decide)) xq339 (by decide) (by decide) (fun x hx => by cases hx)
                      have t341 : tyq339 x = 71 := gSg.typ xq339 sS336.1 t319 rfl
                      have t342 : tyq339 sk = 56 := gSg.typ xq339 sS336.1 t320 rfl
                      have t343 : tyq339 c150 = 73 := gSg.typ xq339 sS336.1 t321 rfl
                      have t344 : tyq339 bv2 = 114 := gSg.typ xq339 sS336.1 t322 rfl
                      have hl345 : hq339.2.2.2.1 bv2 = hq317.2.2.2.1 bv2 := gSg.len xq339 sS336.1 t322 rfl
                      have t346 : tyq339 cq317_0 = 114 := gSg.typ xq339 sS336.1 tcq317_0 rfl
                      have hl347 : hq339.2.2.2.1 cq317_0 = hq317.2.2.2.1 cq317_0 := gSg.len xq339 sS336.1 tcq317_0 rfl
                      have s348 := gSg.at xq339 sS336.1 t319 rfl (by decide) s324
                      have s349 := gSg.at xq339 sS336.1 t319 rfl (by decide) s325
                      have s350 := gSg.at xq339 sS336.1 t319 rfl (by decide) s326
                      have s351 := gSg.at xq339 sS336.1 t319 rfl (by decide) s327
                      have s352 := gSg.at xq339 sS336.1 t319 rfl (by decide) s328
                      have s353 := gSg.at xq339 sS336.1 t319 rfl (by decide) s329
                      have s354 := gSg.at xq339 sS336.1 t319 rfl (by decide) s330
                      have s355 := gSg.at xq339 sS336.1 t319 rfl (by decide) s331
                      have pr356 := gTab.gr xq339 sS336.1 rfl rfl (fun _ => rfl) (fun _ => rfl) (by decide) (by decide) (by decide) (by decide) pr332
                      have pr357 := gRn.gr xq339 sS336.1 rfl (by decide) (by decide) pr333
                      have pr358 := gJv.gr xq339 sS336.1 (by decide) pr334
                      have uq359 := gSg.uq xq339 uq335 (by decide)
                      have sS360 : gSs rT 1027 tyq339 [56000, 56001, 56002, 56003, 71013, 71014, 114999] hq339 hq339 := gSs.rf xq339.1
                      have hwq361e : Int.toNat wv2 = ew.2.2.1 := (congrArg Int.toNat lp173f9).trans (Int.toNat_natCast _)
                      have hwq361 : gJv tyq339 x ew.2.1 (Int.toNat wv2) hq339 := by rw [hwq361e]; exact pr358
                      refine gz_s 1 (pc' := 156) (L' := [some (.ref x), some (.int (zi p)), some (.int (zi zq1)), some (.int (zi rn2)), some (.int (zi k)), some (.int (zi z152)), some (.int (zi (zq154 / 2 ^ (lw).toNat)))]) (S' := [.ref x]) rfl ?_
                      have hl362 : hq339.2.2.2.1 cq339_0 = hq339.2.2.2.1 cq339_0 := congrFun sS360.2.2.2.2.1 cq339_0
                      refine gz_call rfl (by decide) rfl (by decide) (by decide) (gcal_of rfl rfl rfl (Nat.le_of_ble_eq_true rfl) (gJ.recv (G := gGG) sS360.1 t341 rfl rfl)) (cw_putWaiting _ sS360.1 x t341 sk s348 t342 cq339_0 ecq339_0 tcq339_0 fq339_0 efq339_0 ⟨by omega, by omega⟩ fq339_1 efq339_1 ⟨afq339_1, bfq339_1⟩ fq339_2 efq339_2 ⟨afq339_2, bfq339_2⟩ cg s349 rcg wv2 s355 lp173f4 (eeN jn337v0 (Int.toNat 1) (ewS ec79 ((16 * rn2) + 1) ew.2.2.2)) ew.2.1 (Int.le_antisymm (by omega) (by omega)) (Int.le_antisymm (by omega) (by omega)) (Int.le_antisymm (by omega) (by omega)) (by omega) (by omega) uq359 yq339_0 yq339_1 hwq361) (fun q363 _ wq363 => ?_)
                      obtain ⟨pq363, oq363, hq363⟩ := q363
                      obtain ⟨tyq363, xq363, cq363_0, ttq363, fq363_0, fq363_1, fq363_2, fq363_3, ecq363_0, tcq363_0, gq363, efq363_0, afq363_0, bfq363_0, efq363_1, afq363_1, bfq363_1, efq363_2, afq363_2, bfq363_2, efq363_3, afq363_3, bfq363_3, uq363_0, uq363_1, uq363_2, uq363_3, uq363_4, uq363_5, uq363_6, uq363_7, uq363_8, uq363_9, yq363_0, yq363_1, yq363_2⟩ := wq363
                      dsimp only at uq363_5 uq363_6 uq363_7 uq363_9
                      have ch363a := ch_a ch339a uq363_3
                      have ch363b := Int.le_trans ch339b uq363_4
                      have ch363c := ch_c ch339c uq363_5
                      have ch363d := ch_d ch339d uq363_6
                      have ch363e := Int.le_trans ch339e uq363_7
                      clear ch339a ch339b uq363_3 uq363_4 ch339c ch339d ch339e uq339_8 uq363_5 uq363_6 uq363_7 afq339_0 bfq339_0 afq339_1 bfq339_1 afq339_2 bfq339_2 uq339_0 uq339_1 uq339_2 hl345 hl347 hl362
                      refine ⟨_, gq363, ?_⟩
                      show gz gPP gGG gcn _ _ 159 [some (.ref x), some (.int (zi p)), some (.int (zi zq1)), some (.int (zi rn2)), some (.int (zi k)), some (.int (zi z152)), some (.int (zi (zq154 / 2 ^ (lw).toNat)))] [] hq363 _
                      have G364 : gSg [114] [] [56000, 56001, 56002, 56003, 71013, 71014, 114999] ty h tyq363 hq363 := gSg.tr (gSg.ss G340 sS360 (by decide)) xq363 (by decide) (by decide) (fun x hx => by cases hx)
                      have t365 : tyq363 x = 71 := gSg.typ xq363 sS360.1 t341 rfl
                      have t366 : tyq363 sk = 56 := gSg.typ xq363 sS360.1 t342 rfl
                      have t367 : tyq363 c150 = 73 := gSg.typ xq363 sS360.1 t343 rfl
                      have t368 : tyq363 bv2 = 114 := gSg.typ xq363 sS360.1 t344 rfl
                      have hl369 : hq363.2.2.2.1 bv2 = hq339.2.2.2.1 bv2 := gSg.len xq363 sS360.1 t344 rfl
                      have t370 : tyq363 cq317_0 = 114 := gSg.typ xq363 sS360.1 t346 rfl
                      have hl371 : hq363.2.2.2.1 cq317_0 = hq339.2.2.2.1 cq317_0 := gSg.len xq363 sS360.1 t346 rfl
                      have t372 : tyq363 cq339_0 = 114 := gSg.typ xq363 sS360.1 tcq339_0 rfl
                      have hl373 : hq363.2.2.2.1 cq339_0 = hq339.2.2.2.1 cq339_0 := gSg.len xq363 sS360.1 tcq339_0 rfl
                      have s374 := gSg.at xq363 sS360.1 t341 rfl (by decide) s348
                      have s375 := gSg.at xq363 sS360.1 t341 rfl (by decide) s349
                      have s376 := gSg.at xq363 sS360.1 t341 rfl (by decide) s350
                      have s377 := gSg.at xq363 sS360.1 t341 rfl (by decide) s351
                      have s378 := gSg.at xq363 sS360.1 t341 rfl (by decide) s352
                      have s379 := gSg.at xq363 sS360.1 t341 rfl (by decide) s353
                      have s380 := gSg.at xq363 sS360.1 t341 rfl (by decide) s354
                      have pr381 := gTab.gr xq363 sS360.1 rfl rfl (fun _ => rfl) (fun _ => rfl) (by decide) (by decide) (by decide) (by decide) pr356
                      have pr382 := gRn.gr xq363 sS360.1 rfl (by decide) (by decide) pr357
                      have pr383 := gJv.gr xq363 sS360.1 (by decide) hwq361
                      have uq384 := gSg.uq xq363 uq359 (by decide)
                      have sS385 : gSs rT 1027 tyq363 [56000, 56001, 56002, 56003, 71013, 71014, 114999] hq363 hq363 := gSs.rf xq363.1
                      have hk386 : eeN ew.2.1 ew.2.2.1 (eeN jn337v0 (Int.toNat 1) (ewS ec79 ((16 * rn2) + 1) ew.2.2.2)) = eeN ew.2.1 (Int.toNat wv2) (eeN jn337v0 (Int.toNat 1) (ewS ec79 ((16 * rn2) + 1) ew.2.2.2)) := by rw [hwq361e]
                      have hk386_1 : (eeN ew.2.1 ew.2.2.1 (eeN jn337v0 (Int.toNat 1) (ewS ec79 ((16 * rn2) + 1) ew.2.2.2))).1 = (eeN ew.2.1 (Int.toNat wv2) (eeN jn337v0 (Int.toNat 1) (ewS ec79 ((16 * rn2) + 1) ew.2.2.2))).1 := by rw [hk386]
                      have hk386_21 : (eeN ew.2.1 ew.2.2.1 (eeN jn337v0 (Int.toNat 1) (ewS ec79 ((16 * rn2) + 1) ew.2.2.2))).2.1 = (eeN ew.2.1 (Int.toNat wv2) (eeN jn337v0 (Int.toNat 1) (ewS ec79 ((16 * rn2) + 1) ew.2.2.2))).2.1 := by rw [hk386]
                      have hk386_221 : (eeN ew.2.1 ew.2.2.1 (eeN jn337v0 (Int.toNat 1) (ewS ec79 ((16 * rn2) + 1) ew.2.2.2))).2.2.1 = (eeN ew.2.1 (Int.toNat wv2) (eeN jn337v0 (Int.toNat 1) (ewS ec79 ((16 * rn2) + 1) ew.2.2.2))).2.2.1 := by rw [hk386]
                      have hsw387 : gSW tyq363 cq363_0 (eeN ew.2.1 ew.2.2.1 (eeN jn337v0 (Int.toNat 1) (ewS ec79 ((16 * rn2) + 1) ew.2.2.2))) hq363 := by rw [hk386]; exact yq363_0
                      have hok388 : eeOk (eeN ew.2.1 ew.2.2.1 (eeN jn337v0 (Int.toNat 1) (ewS ec79 ((16 * rn2) + 1) ew.2.2.2))) := by rw [hk386]; exact yq363_1
                      have hoc389 := hok388.cur
                      refine gz_s 2 (pc' := 161) (L' := [some (.ref x), some (.int (zi p)), some (.int (zi zq1)), some (.int (zi 0)), some (.int (zi k)), some (.int (zi z152)), some (.int (zi (zq154 / 2 ^ (lw).toNat)))]) (S' := []) rfl ?_
                      have hR : eeRk (ewS ec79) eeN lw cf p fr tt sg (k + 1) = (0, ew.2.1, 0, eeN ew.2.1 ew.2.2.1 (eeN jn337v0 (Int.toNat 1) (ewS ec79 ((16 * rn2) + 1) ew.2.2.2))) := hRq
                      have hR_1 : (eeRk (ewS ec79) eeN lw cf p fr tt sg (k + 1)).1 = 0 := by rw [hR]
                      have hR_21 : (eeRk (ewS ec79) eeN lw cf p fr tt sg (k + 1)).2.1 = ew.2.1 := by rw [hR]
                      have hR_221 : (eeRk (ewS ec79) eeN lw cf p fr tt sg (k + 1)).2.2.1 = 0 := by rw [hR]
                      have hk390 : (eeRk (ewS ec79) eeN lw cf p fr tt sg (k + 1)).2.2.2 = eeN ew.2.1 ew.2.2.1 (eeN jn337v0 (Int.toNat 1) (ewS ec79 ((16 * rn2) + 1) ew.2.2.2)) := by rw [hR]
                      have hk390_1 : ((eeRk (ewS ec79) eeN lw cf p fr tt sg (k + 1)).2.2.2).1 = (eeN ew.2.1 ew.2.2.1 (eeN jn337v0 (Int.toNat 1) (ewS ec79 ((16 * rn2) + 1) ew.2.2.2))).1 := by rw [hk390]
                      have hk390_21 : ((eeRk (ewS ec79) eeN lw cf p fr tt sg (k + 1)).2.2.2).2.1 = (eeN ew.2.1 ew.2.2.1 (eeN jn337v0 (Int.toNat 1) (ewS ec79 ((16 * rn2) + 1) ew.2.2.2))).2.1 := by rw [hk390]
                      have hk390_221 : ((eeRk (ewS ec79) eeN lw cf p fr tt sg (k + 1)).2.2.2).2.2.1 = (eeN ew.2.1 ew.2.2.1 (eeN jn337v0 (Int.toNat 1) (ewS ec79 ((16 * rn2) + 1) ew.2.2.2))).2.2.1 := by rw [hk390]
                      have hsw391 : gSW tyq363 cq363_0 ((eeRk (ewS ec79) eeN lw cf p fr tt sg (k + 1)).2.2.2) hq363 := by rw [hk390]; exact hsw387
                      have hok392 : eeOk ((eeRk (ewS ec79) eeN lw cf p fr tt sg (k + 1)).2.2.2) := by rw [hk390]; exact hok388
                      have hoc393 := hok392.cur
                      have hwq394 : gJv tyq363 x (eeRk (ewS ec79) eeN lw cf p fr tt sg (k + 1)).2.1 (eeRk (ewS ec79) eeN lw cf p fr tt sg (k + 1)).2.2.1 hq363 := by rw [hR]; exact yq363_2
                      refine gy_s 2 (pc' := 19) (L' := [some (.ref x), some (.int (zi p)), some (.int (zi zq1)), some (.int (zi 0)), some (.int ((zi k) + zi 1)), some (.int (zi z152)), some (.int (zi (zq154 / 2 ^ (lw).toNat)))]) (S' := []) (L2 := [some (.ref x), some (.int (zi p)), some (.int (zi zq1)), some (.int (zi 0)), some (.int (zi (k + 1))), some (.int (zi z152)), some (.int (zi (zq154 / 2 ^ (lw).toNat)))]) (S2 := []) rfl (by simp only [zi_add, zi_sub, zi_mul, zi_neg, zi_and1, zi_and7, zi_and15, zi_and31, zi_and255]) (by simp only [zi_add, zi_sub, zi_mul, zi_neg, zi_and1, zi_and7, zi_and15, zi_and31, zi_and255]) ?_
                      have hl395 : 1024 ≤ hq363.2.2.2.1 bv2 ∧ hq363.2.2.2.1 bv2 ≤ 1000000 := gJ.rowl (G := gGG) sS385.1 t368 rfl
                      have hl396 : 1024 ≤ hq363.2.2.2.1 cq317_0 ∧ hq363.2.2.2.1 cq317_0 ≤ 1000000 := gJ.rowl (G := gGG) sS385.1 t370 rfl
                      have hl397 : 1024 ≤ hq363.2.2.2.1 cq339_0 ∧ hq363.2.2.2.1 cq339_0 ≤ 1000000 := gJ.rowl (G := gGG) sS385.1 t372 rfl
                      have hl398 : 1024 ≤ hq363.2.2.2.1 cq363_0 ∧ hq363.2.2.2.1 cq363_0 ≤ 1000000 := gJ.rowl (G := gGG) sS385.1 tcq363_0 rfl
                      have G399 : gSg [114] [] [56000, 56001, 56002, 56003, 71013, 71014, 114999] ty h tyq363 hq363 := gSg.ss G364 sS385 (by decide)
                      clear uq154_0 uq154_1 hwq361e
                      exact gz_wk (ihlp29 tyq363 hq363 cq363_0 0 (k + 1) fq363_0 fq363_1 fq363_2 fq363_3 (gms lp29m (by omega) (by omega)) G399 uq384 t365 t366 ecq363_0 tcq363_0 ⟨by omega, by omega⟩ ⟨by omega, by omega⟩ ⟨by omega, by omega⟩ ⟨afq363_1, bfq363_1⟩ ⟨afq363_2, bfq363_2⟩ ⟨afq363_3, bfq363_3⟩ (Int.le_antisymm (by omega) (by omega)) (Int.le_antisymm (by omega) (by omega)) (by omega) (by omega) (by omega) (Int.le_antisymm (by omega) (by omega)) (Int.le_antisymm (by omega) (by omega)) (Int.le_antisymm (by omega) (by omega)) (by omega) (by omega) (by omega) (by omega) (by omega) (by omega) s374 s375 s376 s377 s378 s379 efq363_0 efq363_1 efq363_2 efq363_3 pr381 pr382 hsw391 hok392 hwq394) (gLw.s (gLw.s (gLw.s (gLw.s (gLw.s (gLw.n (gLw.n gLw.z)))))))
                    by_cases hc400 : (0 : Int) ≤ z152
                    · refine gy_ifT (pc' := 150) rfl (by decide) (by decide) (by omega) hc400 ?_
                      refine gz_s 1 (pc' := 151) (L' := [some (.ref x), some (.int (zi p)), some (.int (zi zq1)), some (.int (zi rn2)), some (.int (zi k)), some (.int (zi z152)), some (.int (zi (zq154 / 2 ^ (lw).toNat)))]) (S' := [.int (zi 1), .ref x]) rfl ?_
                      exact jn337 1 (by omega)
                    · refine gy_ifF rfl (by decide) (by decide) (by omega) hc400 ?_
                      refine gz_s 2 (pc' := 151) (L' := [some (.ref x), some (.int (zi p)), some (.int (zi zq1)), some (.int (zi rn2)), some (.int (zi k)), some (.int (zi z152)), some (.int (zi (zq154 / 2 ^ (lw).toNat)))]) (S' := [.int (zi 0), .ref x]) rfl ?_
                      exact jn337 0 (by omega)
                  · refine gy_icF rfl (by decide) (by decide) (by omega) (by omega) hc315 ?_
                    refine gz_s 1 (pc' := 99) (L' := [some (.ref x), some (.int (zi p)), some (.int (zi zq1)), some (.int (zi rn2)), some (.int (zi k)), some (.int (zi z152)), some (.int (zi (zq154 / 2 ^ (lw).toNat)))]) (S' := [.ref x]) rfl ?_
                    refine gz_1 rfl (by decide) rfl rfl (pc' := 102) (S' := [.long (zl 2), .ref x]) (h' := h179) rfl ?_
                    refine gz_s 1 (pc' := 103) (L' := [some (.ref x), some (.int (zi p)), some (.int (zi zq1)), some (.int (zi rn2)), some (.int (zi k)), some (.int (zi z152)), some (.int (zi (zq154 / 2 ^ (lw).toNat)))]) (S' := [.ref x, .long (zl 2), .ref x]) rfl ?_
                    refine gs_getl rfl (by decide) rfl sh179.1 lp173c0 rfl rfl rfl (fun z401 ez401 az401 bz401 => ?_)
                    refine gy_s 1 (pc' := 107) (L' := [some (.ref x), some (.int (zi p)), some (.int (zi zq1)), some (.int (zi rn2)), some (.int (zi k)), some (.int (zi z152)), some (.int (zi (zq154 / 2 ^ (lw).toNat)))]) (S' := [.long ((zl 2) * (zl z401)), .ref x]) (L2 := [some (.ref x), some (.int (zi p)), some (.int (zi zq1)), some (.int (zi rn2)), some (.int (zi k)), some (.int (zi z152)), some (.int (zi (zq154 / 2 ^ (lw).toNat)))]) (S2 := [.long (zl (2 * z401)), .ref x]) rfl (by simp only [zi_add, zi_sub, zi_mul, zi_neg, zi_and1, zi_and7, zi_and15, zi_and31, zi_and255, zl_add, zl_sub, zl_mul, zl_neg]) (by simp only [zi_add, zi_sub, zi_mul, zi_neg, zi_and1, zi_and7, zi_and15, zi_and31, zi_and255, zl_add, zl_sub, zl_mul, zl_neg]) ?_
                    refine gy_lany (fun z402 ez402 az402 bz402 => ?_)
                    refine gy_s 3 (pc' := 111) (L' := [some (.ref x), some (.int (zi p)), some (.int (zi zq1)), some (.int (zi rn2)), some (.int (zi k)), some (.int (zi z152)), some (.int (zi (zq154 / 2 ^ (lw).toNat)))]) (S' := [.int ((zi (zq154 / 2 ^ (lw).toNat)) &&& (zi 1)), .long (zl z402), .ref x]) (L2 := [some (.ref x), some (.int (zi p)), some (.int (zi zq1)), some (.int (zi rn2)), some (.int (zi k)), some (.int (zi z152)), some (.int (zi (zq154 / 2 ^ (lw).toNat)))]) (S2 := [.int (zi ((zq154 / 2 ^ (lw).toNat) % 2)), .long (zl z402), .ref x]) rfl (by simp only [zi_add, zi_sub, zi_mul, zi_neg, zi_and1, zi_and7, zi_and15, zi_and31, zi_and255, zl_add, zl_sub, zl_mul, zl_neg]) (by simp only [zi_add, zi_sub, zi_mul, zi_neg, zi_and1, zi_and7, zi_and15, zi_and31, zi_and255, zl_add, zl_sub, zl_mul, zl_neg]) ?_
                    refine gy_i2l rfl (by decide) ⟨by omega, by omega⟩ ?_
                    refine gy_s 1 (pc' := 113) (L' := [some (.ref x), some (.int (zi p)), some (.int (zi zq1)), some (.int (zi rn2)), some (.int (zi k)), some (.int (zi z152)), some (.int (zi (zq154 / 2 ^ (lw).toNat)))]) (S' := [.long ((zl z402) + (zl ((zq154 / 2 ^ (lw).toNat) % 2))), .ref x]) (L2 := [some (.ref x), some (.int (zi p)), some (.int (zi zq1)), some (.int (zi rn2)), some (.int (zi k)), some (.int (zi z152)), some (.int (zi (zq154 / 2 ^ (lw).toNat)))]) (S2 := [.long (zl (z402 + ((zq154 / 2 ^ (lw).toNat) % 2))), .ref x]) rfl (by simp only [zi_add, zi_sub, zi_mul, zi_neg, zi_and1, zi_and7, zi_and15, zi_and31, zi_and255, zl_add, zl_sub, zl_mul, zl_neg]) (by simp only [zi_add, zi_sub, zi_mul, zi_neg, zi_and1, zi_and7, zi_and15, zi_and31, zi_and255, zl_add, zl_sub, zl_mul, zl_neg]) ?_
                    refine gy_lany (fun z403 ez403 az403 bz403 => ?_)
                    refine gs_putl rfl (by decide) rfl sh179 lp173c0 rfl rfl rfl rfl (Or.inl rfl) (by decide) (by omega) (by omega) (fun h404 sh404 eh404 fh404 => ?_)
                    have pr405 := gTab.pt fh404 lp173c0 (by decide) (by decide) lp173k11
                    have pr406 := gRn.pt fh404 lp173c0 (by decide) lp173k12
                    have pr407 := gSW.pt fh404 lp173c0 (by decide) lp173k13
                    have s408 := (fh404 x 0 (fun q => absurd q.2 (by decide))).trans lp173k0
                    have s409 := (fh404 x 11 (fun q => absurd q.2 (by decide))).trans lp173k1
                    have s410 := (fh404 x 7 (fun q => absurd q.2 (by decide))).trans lp173k2
                    have s411 := (fh404 x 8 (fun q => absurd q.2 (by decide))).trans lp173k3
                    have s412 := (fh404 x 10 (fun q => absurd q.2 (by decide))).trans lp173k4
                    have s413 := (fh404 x 5 (fun q => absurd q.2 (by decide))).trans lp173k5
                    have s414 := (fh404 x 2 (fun q => absurd q.2 (by decide))).trans lp173k6
                    have s415 := (fh404 sk 1 (fun q => absurd q.2 (by decide))).trans lp173k7
                    have s416 := (fh404 sk 2 (fun q => absurd q.2 (by decide))).trans lp173k8
                    have s417 := (fh404 sk 3 (fun q => absurd q.2 (by decide))).trans lp173k9
                    have s418 := (fh404 x 14 (fun q => absurd q.2 (by decide))).trans lp173k10
                    have s419 := (fh404 sk 0 (fun q => absurd q.2 (by decide))).trans lp173r0
                    have hwq420 : gJv ty180 x (2 * ew.2.1 + (zq154 / 2 ^ (lw).toNat) % 2) (ew.2.2.1 + 1) h404 := gJv.put (b := (zq154 / 2 ^ (lw).toNat) % 2) lp173k15 (by omega) ez401 (zl_tw ez402 ez403) eh404
                    refine gz_s 2 (pc' := 118) (L' := [some (.ref x), some (.int (zi p)), some (.int (zi zq1)), some (.int (zi rn2)), some (.int (zi k)), some (.int (zi z152)), some (.int (zi (zq154 / 2 ^ (lw).toNat)))]) (S' := [.ref x, .ref x]) rfl ?_
                    refine gs_gtk rfl (by decide) rfl sh404.1 lp173c0 rfl rfl s418 ?_
                    refine gy_s 2 (pc' := 123) (L' := [some (.ref x), some (.int (zi p)), some (.int (zi zq1)), some (.int (zi rn2)), some (.int (zi k)), some (.int (zi z152)), some (.int (zi (zq154 / 2 ^ (lw).toNat)))]) (S' := [.int ((zi wv2) + (zi 1)), .ref x]) (L2 := [some (.ref x), some (.int (zi p)), some (.int (zi zq1)), some (.int (zi rn2)), some (.int (zi k)), some (.int (zi z152)), some (.int (zi (zq154 / 2 ^ (lw).toNat)))]) (S2 := [.int (zi (wv2 + 1)), .ref x]) rfl (by simp only [zi_add, zi_sub, zi_mul, zi_neg, zi_and1, zi_and7, zi_and15, zi_and31, zi_and255]) (by simp only [zi_add, zi_sub, zi_mul, zi_neg, zi_and1, zi_and7, zi_and15, zi_and31, zi_and255]) ?_
                    refine gs_put rfl (by decide) rfl sh404 lp173c0 rfl rfl rfl rfl (Or.inl rfl) (by decide) (by omega) (by omega) (fun h421 sh421 eh421 fh421 => ?_)
                    have pr422 := gTab.pt fh421 lp173c0 (by decide) (by decide) pr405
                    have pr423 := gRn.pt fh421 lp173c0 (by decide) pr406
                    have pr424 := gSW.pt fh421 lp173c0 (by decide) pr407
                    have pr425 := gJv.pk fh421 (sh421.2.2.2.2.1.trans sh404.2.2.2.2.1.symm) lp173c0 (by decide) hwq420
                    have s426 := (fh421 x 0 (fun q => absurd q.2 (by decide))).trans s408
                    have s427 := (fh421 x 11 (fun q => absurd q.2 (by decide))).trans s409
                    have s428 := (fh421 x 7 (fun q => absurd q.2 (by decide))).trans s410
                    have s429 := (fh421 x 8 (fun q => absurd q.2 (by decide))).trans s411
                    have s430 := (fh421 x 10 (fun q => absurd q.2 (by decide))).trans s412
                    have s431 := (fh421 x 5 (fun q => absurd q.2 (by decide))).trans s413
                    have s432 := (fh421 x 2 (fun q => absurd q.2 (by decide))).trans s414
                    have s433 := (fh421 sk 1 (fun q => absurd q.2 (by decide))).trans s415
                    have s434 := (fh421 sk 2 (fun q => absurd q.2 (by decide))).trans s416
                    have s435 := (fh421 sk 3 (fun q => absurd q.2 (by decide))).trans s417
                    have s436 := (fh421 sk 0 (fun q => absurd q.2 (by decide))).trans s419
                    have s437 := (fh421 x 13 (fun q => absurd q.2 (by decide))).trans eh404
                    refine gz_s 1 (pc' := 161) (L' := [some (.ref x), some (.int (zi p)), some (.int (zi zq1)), some (.int (zi rn2)), some (.int (zi k)), some (.int (zi z152)), some (.int (zi (zq154 / 2 ^ (lw).toNat)))]) (S' := []) rfl ?_
                    have hR : eeRk (ewS ec79) eeN lw cf p fr tt sg (k + 1) = (ew.1, 2 * ew.2.1 + (zq154 / 2 ^ (lw).toNat) % 2, ew.2.2.1 + 1, ew.2.2.2) := by rw [eeRk_m (a := zq154 / 2 ^ (lw).toNat) (x := rn) (y := rn2) (by omega) (by omega) (by omega) hcf (by rw [hA]) (by omega) (by rw [← her]; exact lp29f6) ⟨by omega, by omega⟩ (e_hmc (Iff.of_eq (congrArg (fun x9 : Int => k ≤ x9) hlk9)) lp173f7 lp173f6 (by omega)), ← her, ← hew]
                    have hR_1 : (eeRk (ewS ec79) eeN lw cf p fr tt sg (k + 1)).1 = ew.1 := by rw [hR]
                    have hR_21 : (eeRk (ewS ec79) eeN lw cf p fr tt sg (k + 1)).2.1 = 2 * ew.2.1 + (zq154 / 2 ^ (lw).toNat) % 2 := by rw [hR]
                    have hR_221 : (eeRk (ewS ec79) eeN lw cf p fr tt sg (k + 1)).2.2.1 = ew.2.2.1 + 1 := by rw [hR]
                    have hk438 : (eeRk (ewS ec79) eeN lw cf p fr tt sg (k + 1)).2.2.2 = ew.2.2.2 := by rw [hR]
                    have hk438_1 : ((eeRk (ewS ec79) eeN lw cf p fr tt sg (k + 1)).2.2.2).1 = (ew.2.2.2).1 := by rw [hk438]
                    have hk438_21 : ((eeRk (ewS ec79) eeN lw cf p fr tt sg (k + 1)).2.2.2).2.1 = (ew.2.2.2).2.1 := by rw [hk438]
                    have hk438_221 : ((eeRk (ewS ec79) eeN lw cf p fr tt sg (k + 1)).2.2.2).2.2.1 = (ew.2.2.2).2.2.1 := by rw [hk438]
                    have hsw439 : gSW ty180 bv2 ((eeRk (ewS ec79) eeN lw cf p fr tt sg (k + 1)).2.2.2) h421 := by rw [hk438]; exact pr424
                    have hok440 : eeOk ((eeRk (ewS ec79) eeN lw cf p fr tt sg (k + 1)).2.2.2) := by rw [hk438]; exact lp173k14
                    have hoc441 := hok440.cur
                    have hwq442 : gJv ty180 x (eeRk (ewS ec79) eeN lw cf p fr tt sg (k + 1)).2.1 (eeRk (ewS ec79) eeN lw cf p fr tt sg (k + 1)).2.2.1 h421 := by rw [hR]; exact pr425
                    refine gy_s 2 (pc' := 19) (L' := [some (.ref x), some (.int (zi p)), some (.int (zi zq1)), some (.int (zi rn2)), some (.int ((zi k) + zi 1)), some (.int (zi z152)), some (.int (zi (zq154 / 2 ^ (lw).toNat)))]) (S' := []) (L2 := [some (.ref x), some (.int (zi p)), some (.int (zi zq1)), some (.int (zi rn2)), some (.int (zi (k + 1))), some (.int (zi z152)), some (.int (zi (zq154 / 2 ^ (lw).toNat)))]) (S2 := []) rfl (by simp only [zi_add, zi_sub, zi_mul, zi_neg, zi_and1, zi_and7, zi_and15, zi_and31, zi_and255]) (by simp only [zi_add, zi_sub, zi_mul, zi_neg, zi_and1, zi_and7, zi_and15, zi_and31, zi_and255]) ?_
                    have k443 := sh421.2.1
                    have k443b := sh421.2.2.1
                    have hl444 : h421.2.2.2.1 bv2 = h179.2.2.2.1 bv2 := congrFun sh421.2.2.2.2.1 bv2
                    have hl445 : 1024 ≤ h421.2.2.2.1 bv2 ∧ h421.2.2.2.1 bv2 ≤ 1000000 := gJ.rowl (G := gGG) sh421.1 lp173r1 rfl
                    have G446 : gSg [114] [] [56000, 56001, 56002, 56003, 71013, 71014, 114999] ty h ty180 h421 := gSg.ss lp173G sh421 (by decide)
                    clear uq154_0 uq154_1 lp173f7
                    exact gz_wk (ihlp29 ty180 h421 bv2 rn2 (k + 1) cv2 uv2 hv2 (wv2 + 1) (gms lp29m (by omega) (by omega)) G446 lp173u lp173c0 lp173c1 s436 lp173r1 lp173f0 ⟨by omega, by omega⟩ lp173f1 lp173f2 lp173f3 ⟨by omega, by omega⟩ (Int.le_antisymm (by omega) (by omega)) (Int.le_antisymm (by omega) (by omega)) (by omega) (by omega) (by omega) (Int.le_antisymm (by omega) (by omega)) (Int.le_antisymm (by omega) (by omega)) (Int.le_antisymm (by omega) (by omega)) (by omega) (by omega) (by omega) (by omega) (by omega) (by omega) s426 s427 s428 s429 s430 s431 s433 s434 s435 eh421 pr422 pr423 hsw439 hok440 hwq442) (gLw.s (gLw.s (gLw.s (gLw.s (gLw.s (gLw.n (gLw.n gLw.z)))))))
                · refine gy_icF rfl (by decide) (by decide) (by omega) (by omega) hc314 ?_
                  refine gz_s 3 (pc' := 79) (L' := [some (.ref x), some (.int (zi p)), some (.int (zi zq1)), some (.int (zi rn2)), some (.int (zi k)), some (.int (zi z152)), some (.int (zi (zq154 / 2 ^ (lw).toNat)))]) (S' := [.int (zi 240), .int (zi 1), .ref x]) rfl ?_
                  have hl447 : h179.2.2.2.1 bv2 = h179.2.2.2.1 bv2 := congrFun sh179.2.2.2.2.1 bv2
                  refine gz_call rfl (by decide) rfl (by decide) (by decide) (gcal_of rfl rfl rfl (Nat.le_of_ble_eq_true rfl) (gJ.recv (G := gGG) sh179.1 lp173c0 rfl rfl)) (cw_putSymbol1 _ sh179.1 x lp173c0 1 ⟨by omega, by omega⟩ 240 ⟨by omega, by omega⟩ sk lp173k0 lp173c1 bv2 lp173r0 lp173r1 cv2 lp173k7 lp173f1 uv2 lp173k8 lp173f2 hv2 lp173k9 lp173f3 cg lp173k1 rcg ew.2.2.2 ec79 (Int.le_antisymm (by omega) (by omega)) (Int.le_antisymm (by omega) (by omega)) (Int.le_antisymm (by omega) (by omega)) (by omega) (by omega) lp173u lp173k13 lp173k14 lp173k11) (fun q448 _ wq448 => ?_)
                  obtain ⟨pq448, oq448, hq448⟩ := q448
                  obtain ⟨tyq448, xq448, cq448_0, ttq448, fq448_0, fq448_1, fq448_2, ecq448_0, tcq448_0, gq448, efq448_0, afq448_0, bfq448_0, efq448_1, afq448_1, bfq448_1, efq448_2, afq448_2, bfq448_2, uq448_0, uq448_1, uq448_2, uq448_3, uq448_4, uq448_5, uq448_6, uq448_7, uq448_8, yq448_0, yq448_1⟩ := wq448
                  dsimp only at uq448_5 uq448_6 uq448_7 uq448_8
                  have ch448a := ch_a lp173f14 uq448_3
                  have ch448b := Int.le_trans lp173f15 uq448_4
                  have ch448c := ch_c lp173f16 uq448_5
                  have ch448d := ch_d lp173f17 uq448_6
                  have ch448e := Int.le_trans lp173f18 uq448_7
                  clear lp173f14 lp173f15 uq448_3 uq448_4 lp173f16 lp173f17 lp173f18 lp173f19 uq448_5 uq448_6 uq448_7 hl151 lp173f1 lp173f2 lp173f3 lp173f11 lp173f12 lp173f13 hl447
                  refine ⟨_, gq448, ?_⟩
                  show gz gPP gGG gcn _ _ 82 [some (.ref x), some (.int (zi p)), some (.int (zi zq1)), some (.int (zi rn2)), some (.int (zi k)), some (.int (zi z152)), some (.int (zi (zq154 / 2 ^ (lw).toNat)))] [] hq448 _
                  have G449 : gSg [114] [] [56000, 56001, 56002, 56003, 71013, 71014, 114999] ty h tyq448 hq448 := gSg.tr (gSg.ss lp173G sh179 (by decide)) xq448 (by decide) (by decide) (fun x hx => by cases hx)
                  have t450 : tyq448 x = 71 := gSg.typ xq448 sh179.1 lp173c0 rfl
                  have t451 : tyq448 sk = 56 := gSg.typ xq448 sh179.1 lp173c1 rfl
                  have t452 : tyq448 c150 = 73 := gSg.typ xq448 sh179.1 lp173c2 rfl
                  have t453 : tyq448 bv2 = 114 := gSg.typ xq448 sh179.1 lp173r1 rfl
                  have hl454 : hq448.2.2.2.1 bv2 = h179.2.2.2.1 bv2 := gSg.len xq448 sh179.1 lp173r1 rfl
                  have s455 := gSg.at xq448 sh179.1 lp173c0 rfl (by decide) lp173k0
                  have s456 := gSg.at xq448 sh179.1 lp173c0 rfl (by decide) lp173k1
                  have s457 := gSg.at xq448 sh179.1 lp173c0 rfl (by decide) lp173k2
                  have s458 := gSg.at xq448 sh179.1 lp173c0 rfl (by decide) lp173k3
                  have s459 := gSg.at xq448 sh179.1 lp173c0 rfl (by decide) lp173k4
                  have s460 := gSg.at xq448 sh179.1 lp173c0 rfl (by decide) lp173k5
                  have s461 := gSg.at xq448 sh179.1 lp173c0 rfl (by decide) lp173k6
                  have s462 := gSg.at xq448 sh179.1 lp173c0 rfl (by decide) lp173k10
                  have pr463 := gTab.gr xq448 sh179.1 rfl rfl (fun _ => rfl) (fun _ => rfl) (by decide) (by decide) (by decide) (by decide) lp173k11
                  have pr464 := gRn.gr xq448 sh179.1 rfl (by decide) (by decide) lp173k12
                  have pr465 := gJv.gr xq448 sh179.1 (by decide) lp173k15
                  have uq466 := gSg.uq xq448 lp173u (by decide)
                  have sS467 : gSs rT 1027 tyq448 [56000, 56001, 56002, 56003, 71013, 71014, 114999] hq448 hq448 := gSs.rf xq448.1
                  have hwq468e : Int.toNat wv2 = ew.2.2.1 := (congrArg Int.toNat lp173f9).trans (Int.toNat_natCast _)
                  have hwq468 : gJv tyq448 x ew.2.1 (Int.toNat wv2) hq448 := by rw [hwq468e]; exact pr465
                  refine gz_s 1 (pc' := 83) (L' := [some (.ref x), some (.int (zi p)), some (.int (zi zq1)), some (.int (zi rn2)), some (.int (zi k)), some (.int (zi z152)), some (.int (zi (zq154 / 2 ^ (lw).toNat)))]) (S' := [.ref x]) rfl ?_
                  have hl469 : hq448.2.2.2.1 cq448_0 = hq448.2.2.2.1 cq448_0 := congrFun sS467.2.2.2.2.1 cq448_0
                  refine gz_call rfl (by decide) rfl (by decide) (by decide) (gcal_of rfl rfl rfl (Nat.le_of_ble_eq_true rfl) (gJ.recv (G := gGG) sS467.1 t450 rfl rfl)) (cw_putWaiting _ sS467.1 x t450 sk s455 t451 cq448_0 ecq448_0 tcq448_0 fq448_0 efq448_0 ⟨by omega, by omega⟩ fq448_1 efq448_1 ⟨afq448_1, bfq448_1⟩ fq448_2 efq448_2 ⟨afq448_2, bfq448_2⟩ cg s456 rcg wv2 s462 lp173f4 (ewS ec79 240 ew.2.2.2) ew.2.1 (Int.le_antisymm (by omega) (by omega)) (Int.le_antisymm (by omega) (by omega)) (Int.le_antisymm (by omega) (by omega)) (by omega) (by omega) uq466 yq448_0 yq448_1 hwq468) (fun q470 _ wq470 => ?_)
                  obtain ⟨pq470, oq470, hq470⟩ := q470
                  obtain ⟨tyq470, xq470, cq470_0, ttq470, fq470_0, fq470_1, fq470_2, fq470_3, ecq470_0, tcq470_0, gq470, efq470_0, afq470_0, bfq470_0, efq470_1, afq470_1, bfq470_1, efq470_2, afq470_2, bfq470_2, efq470_3, afq470_3, bfq470_3, uq470_0, uq470_1, uq470_2, uq470_3, uq470_4, uq470_5, uq470_6, uq470_7, uq470_8, uq470_9, yq470_0, yq470_1, yq470_2⟩ := wq470
                  dsimp only at uq470_5 uq470_6 uq470_7 uq470_9
                  have ch470a := ch_a ch448a uq470_3
                  have ch470b := Int.le_trans ch448b uq470_4
                  have ch470c := ch_c ch448c uq470_5
                  have ch470d := ch_d ch448d uq470_6
                  have ch470e := Int.le_trans ch448e uq470_7
                  clear ch448a ch448b uq470_3 uq470_4 ch448c ch448d ch448e uq448_8 uq470_5 uq470_6 uq470_7 afq448_0 bfq448_0 afq448_1 bfq448_1 afq448_2 bfq448_2 uq448_0 uq448_1 uq448_2 hl454 hl469
                  refine ⟨_, gq470, ?_⟩
                  show gz gPP gGG gcn _ _ 86 [some (.ref x), some (.int (zi p)), some (.int (zi zq1)), some (.int (zi rn2)), some (.int (zi k)), some (.int (zi z152)), some (.int (zi (zq154 / 2 ^ (lw).toNat)))] [] hq470 _
                  have G471 : gSg [114] [] [56000, 56001, 56002, 56003, 71013, 71014, 114999] ty h tyq470 hq470 := gSg.tr (gSg.ss G449 sS467 (by decide)) xq470 (by decide) (by decide) (fun x hx => by cases hx)
                  have t472 : tyq470 x = 71 := gSg.typ xq470 sS467.1 t450 rfl
                  have t473 : tyq470 sk = 56 := gSg.typ xq470 sS467.1 t451 rfl
                  have t474 : tyq470 c150 = 73 := gSg.typ xq470 sS467.1 t452 rfl
                  have t475 : tyq470 bv2 = 114 := gSg.typ xq470 sS467.1 t453 rfl
                  have hl476 : hq470.2.2.2.1 bv2 = hq448.2.2.2.1 bv2 := gSg.len xq470 sS467.1 t453 rfl
                  have t477 : tyq470 cq448_0 = 114 := gSg.typ xq470 sS467.1 tcq448_0 rfl
                  have hl478 : hq470.2.2.2.1 cq448_0 = hq448.2.2.2.1 cq448_0 := gSg.len xq470 sS467.1 tcq448_0 rfl
                  have s479 := gSg.at xq470 sS467.1 t450 rfl (by decide) s455
                  have s480 := gSg.at xq470 sS467.1 t450 rfl (by decide) s456
                  have s481 := gSg.at xq470 sS467.1 t450 rfl (by decide) s457
                  have s482 := gSg.at xq470 sS467.1 t450 rfl (by decide) s458
                  have s483 := gSg.at xq470 sS467.1 t450 rfl (by decide) s459
                  have s484 := gSg.at xq470 sS467.1 t450 rfl (by decide) s460
                  have s485 := gSg.at xq470 sS467.1 t450 rfl (by decide) s461
                  have pr486 := gTab.gr xq470 sS467.1 rfl rfl (fun _ => rfl) (fun _ => rfl) (by decide) (by decide) (by decide) (by decide) pr463
                  have pr487 := gRn.gr xq470 sS467.1 rfl (by decide) (by decide) pr464
                  have pr488 := gJv.gr xq470 sS467.1 (by decide) hwq468
                  have uq489 := gSg.uq xq470 uq466 (by decide)
                  have sS490 : gSs rT 1027 tyq470 [56000, 56001, 56002, 56003, 71013, 71014, 114999] hq470 hq470 := gSs.rf xq470.1
                  have hk491 : eeN ew.2.1 ew.2.2.1 (ewS ec79 240 ew.2.2.2) = eeN ew.2.1 (Int.toNat wv2) (ewS ec79 240 ew.2.2.2) := by rw [hwq468e]
                  have hk491_1 : (eeN ew.2.1 ew.2.2.1 (ewS ec79 240 ew.2.2.2)).1 = (eeN ew.2.1 (Int.toNat wv2) (ewS ec79 240 ew.2.2.2)).1 := by rw [hk491]
                  have hk491_21 : (eeN ew.2.1 ew.2.2.1 (ewS ec79 240 ew.2.2.2)).2.1 = (eeN ew.2.1 (Int.toNat wv2) (ewS ec79 240 ew.2.2.2)).2.1 := by rw [hk491]
                  have hk491_221 : (eeN ew.2.1 ew.2.2.1 (ewS ec79 240 ew.2.2.2)).2.2.1 = (eeN ew.2.1 (Int.toNat wv2) (ewS ec79 240 ew.2.2.2)).2.2.1 := by rw [hk491]
                  have hsw492 : gSW tyq470 cq470_0 (eeN ew.2.1 ew.2.2.1 (ewS ec79 240 ew.2.2.2)) hq470 := by rw [hk491]; exact yq470_0
                  have hok493 : eeOk (eeN ew.2.1 ew.2.2.1 (ewS ec79 240 ew.2.2.2)) := by rw [hk491]; exact yq470_1
                  have hoc494 := hok493.cur
                  have hR : eeWk (ewS ec79) eeN er rn (rn2 + (-16)) = (ew.1 - 16, ew.2.1, 0, eeN ew.2.1 ew.2.2.1 (ewS ec79 240 ew.2.2.2)) := by rw [eeWk_s (by omega) (by omega) (by omega), ← hew]
                  have hR_1 : (eeWk (ewS ec79) eeN er rn (rn2 + (-16))).1 = ew.1 - 16 := by rw [hR]
                  have hR_21 : (eeWk (ewS ec79) eeN er rn (rn2 + (-16))).2.1 = ew.2.1 := by rw [hR]
                  have hR_221 : (eeWk (ewS ec79) eeN er rn (rn2 + (-16))).2.2.1 = 0 := by rw [hR]
                  have hk495 : (eeWk (ewS ec79) eeN er rn (rn2 + (-16))).2.2.2 = eeN ew.2.1 ew.2.2.1 (ewS ec79 240 ew.2.2.2) := by rw [hR]
                  have hk495_1 : ((eeWk (ewS ec79) eeN er rn (rn2 + (-16))).2.2.2).1 = (eeN ew.2.1 ew.2.2.1 (ewS ec79 240 ew.2.2.2)).1 := by rw [hk495]
                  have hk495_21 : ((eeWk (ewS ec79) eeN er rn (rn2 + (-16))).2.2.2).2.1 = (eeN ew.2.1 ew.2.2.1 (ewS ec79 240 ew.2.2.2)).2.1 := by rw [hk495]
                  have hk495_221 : ((eeWk (ewS ec79) eeN er rn (rn2 + (-16))).2.2.2).2.2.1 = (eeN ew.2.1 ew.2.2.1 (ewS ec79 240 ew.2.2.2)).2.2.1 := by rw [hk495]
                  have hsw496 : gSW tyq470 cq470_0 ((eeWk (ewS ec79) eeN er rn (rn2 + (-16))).2.2.2) hq470 := by rw [hk495]; exact hsw492
                  have hok497 : eeOk ((eeWk (ewS ec79) eeN er rn (rn2 + (-16))).2.2.2) := by rw [hk495]; exact hok493
                  have hoc498 := hok497.cur
                  have hwq499 : gJv tyq470 x (eeWk (ewS ec79) eeN er rn (rn2 + (-16))).2.1 (eeWk (ewS ec79) eeN er rn (rn2 + (-16))).2.2.1 hq470 := by rw [hR]; exact yq470_2
                  refine gy_s 2 (pc' := 62) (L' := [some (.ref x), some (.int (zi p)), some (.int (zi zq1)), some (.int ((zi rn2) + zi (-16))), some (.int (zi k)), some (.int (zi z152)), some (.int (zi (zq154 / 2 ^ (lw).toNat)))]) (S' := []) (L2 := [some (.ref x), some (.int (zi p)), some (.int (zi zq1)), some (.int (zi (rn2 + (-16)))), some (.int (zi k)), some (.int (zi z152)), some (.int (zi (zq154 / 2 ^ (lw).toNat)))]) (S2 := []) rfl (by simp only [zi_add, zi_sub, zi_mul, zi_neg, zi_and1, zi_and7, zi_and15, zi_and31, zi_and255]) (by simp only [zi_add, zi_sub, zi_mul, zi_neg, zi_and1, zi_and7, zi_and15, zi_and31, zi_and255]) ?_
                  have hl500 : 1024 ≤ hq470.2.2.2.1 bv2 ∧ hq470.2.2.2.1 bv2 ≤ 1000000 := gJ.rowl (G := gGG) sS490.1 t475 rfl
                  have hl501 : 1024 ≤ hq470.2.2.2.1 cq448_0 ∧ hq470.2.2.2.1 cq448_0 ≤ 1000000 := gJ.rowl (G := gGG) sS490.1 t477 rfl
                  have hl502 : 1024 ≤ hq470.2.2.2.1 cq470_0 ∧ hq470.2.2.2.1 cq470_0 ≤ 1000000 := gJ.rowl (G := gGG) sS490.1 tcq470_0 rfl
                  have G503 : gSg [114] [] [56000, 56001, 56002, 56003, 71013, 71014, 114999] ty h tyq470 hq470 := gSg.ss G471 sS490 (by decide)
                  clear uq154_0 uq154_1 lp173f7 hwq468e
                  exact gz_wk (ihlp173 tyq470 hq470 cq470_0 (rn2 + (-16)) fq470_0 fq470_1 fq470_2 fq470_3 (gms lp173m (by omega) (by omega)) G503 uq489 t472 t473 t474 ecq470_0 tcq470_0 ⟨by omega, by omega⟩ ⟨by omega, by omega⟩ ⟨afq470_1, bfq470_1⟩ ⟨afq470_2, bfq470_2⟩ ⟨afq470_3, bfq470_3⟩ (by omega) (Int.le_antisymm (by omega) (by omega)) (by omega) (Int.le_antisymm (by omega) (by omega)) (Int.le_antisymm (by omega) (by omega)) (by omega) (Int.le_antisymm (by omega) (by omega)) (Int.le_antisymm (by omega) (by omega)) (Int.le_antisymm (by omega) (by omega)) (by omega) (by omega) (by omega) (by omega) (by omega) (by omega) s479 s480 s481 s482 s483 s484 s485 efq470_0 efq470_1 efq470_2 efq470_3 pr486 pr487 hsw496 hok497 hwq499) (gLw.s (gLw.s (gLw.s (gLw.s (gLw.s (gLw.s (gLw.s gLw.z)))))))
          have hw00 : (eeWk (ewS ec79) eeN er rn rn).1 = er.1 := by rw [eeWk_0]
          have hw01 : (eeWk (ewS ec79) eeN er rn rn).2.2.1 = er.2.2.1 := by rw [eeWk_0]
          have k504 := sq154.2.1
          have k504b := sq154.2.2.1
          have hl505 : hq154.2.2.2.1 bv = h35.2.2.2.1 bv := congrFun sq154.2.2.2.2.1 bv
          have hl506 : 1024 ≤ hq154.2.2.2.1 bv ∧ hq154.2.2.2.1 bv ≤ 1000000 := gJ.rowl (G := gGG) sq154.1 lp29r1 rfl
          have G507 : gSg [114] [] [56000, 56001, 56002, 56003, 71013, 71014, 114999] ty h ty36 hq154 := gSg.ss lp29G sq154 (by decide)
          exact gz_wk (lp173 _ ty36 hq154 bv rn cv uv hv wv (Nat.lt_succ_self _) G507 lp29u lp29c0 lp29c1 tc150 s165 lp29r1 lp29f0 lp29f2 lp29f3 lp29f4 lp29f5 (by omega) (Int.le_antisymm (by omega) (by omega)) (by omega) (Int.le_antisymm (by omega) (by omega)) (Int.le_antisymm (by omega) (by omega)) (by omega) (Int.le_antisymm (by omega) (by omega)) (Int.le_antisymm (by omega) (by omega)) (Int.le_antisymm (by omega) (by omega)) (by omega) (by omega) (by omega) (by omega) (by omega) (by omega) s155 s156 s157 s158 s159 s160 s166 s161 s162 s163 s164 pr167 pr168 hsw175 hok176 hwq178) (gLw.s (gLw.s (gLw.s (gLw.s (gLw.s (gLw.s (gLw.s gLw.z)))))))
        · refine gy_ifF rfl (by decide) (by decide) (by omega) hc172 ?_
          refine gy_s 2 (pc' := 161) (L' := [some (.ref x), some (.int (zi p)), some (.int (zi zq1)), some (.int ((zi rn) + zi 1)), some (.int (zi k)), some (.int (zi z152)), some (.int (zi (zq154 / 2 ^ (lw).toNat)))]) (S' := []) (L2 := [some (.ref x), some (.int (zi p)), some (.int (zi zq1)), some (.int (zi (rn + 1))), some (.int (zi k)), some (.int (zi z152)), some (.int (zi (zq154 / 2 ^ (lw).toNat)))]) (S2 := []) rfl (by simp only [zi_add, zi_sub, zi_mul, zi_neg, zi_and1, zi_and7, zi_and15, zi_and31, zi_and255]) (by simp only [zi_add, zi_sub, zi_mul, zi_neg, zi_and1, zi_and7, zi_and15, zi_and31, zi_and255]) ?_
          have hR : eeRk (ewS ec79) eeN lw cf p fr tt sg (k + 1) = (rn + 1, er.2.1, er.2.2.1, er.2.2.2) := by rw [eeRk_z (by omega) (by omega) (by omega) hcf (by rw [← hA]; omega), ← her]; rw [← lp29f6]
          have hR_1 : (eeRk (ewS ec79) eeN lw cf p fr tt sg (k + 1)).1 = rn + 1 := by rw [hR]
          have hR_21 : (eeRk (ewS ec79) eeN lw cf p fr tt sg (k + 1)).2.1 = er.2.1 := by rw [hR]
          have hR_221 : (eeRk (ewS ec79) eeN lw cf p fr tt sg (k + 1)).2.2.1 = er.2.2.1 := by rw [hR]
          have hk508 : (eeRk (ewS ec79) eeN lw cf p fr tt sg (k + 1)).2.2.2 = er.2.2.2 := by rw [hR]
          have hk508_1 : ((eeRk (ewS ec79) eeN lw cf p fr tt sg (k + 1)).2.2.2).1 = (er.2.2.2).1 := by rw [hk508]
          have hk508_21 : ((eeRk (ewS ec79) eeN lw cf p fr tt sg (k + 1)).2.2.2).2.1 = (er.2.2.2).2.1 := by rw [hk508]
          have hk508_221 : ((eeRk (ewS ec79) eeN lw cf p fr tt sg (k + 1)).2.2.2).2.2.1 = (er.2.2.2).2.2.1 := by rw [hk508]
          have hsw509 : gSW ty36 bv ((eeRk (ewS ec79) eeN lw cf p fr tt sg (k + 1)).2.2.2) hq154 := by rw [hk508]; exact pr169
          have hok510 : eeOk ((eeRk (ewS ec79) eeN lw cf p fr tt sg (k + 1)).2.2.2) := by rw [hk508]; exact lp29k13
          have hoc511 := hok510.cur
          have hwq512 : gJv ty36 x (eeRk (ewS ec79) eeN lw cf p fr tt sg (k + 1)).2.1 (eeRk (ewS ec79) eeN lw cf p fr tt sg (k + 1)).2.2.1 hq154 := by rw [hR]; exact pr170
          refine gy_s 2 (pc' := 19) (L' := [some (.ref x), some (.int (zi p)), some (.int (zi zq1)), some (.int (zi (rn + 1))), some (.int ((zi k) + zi 1)), some (.int (zi z152)), some (.int (zi (zq154 / 2 ^ (lw).toNat)))]) (S' := []) (L2 := [some (.ref x), some (.int (zi p)), some (.int (zi zq1)), some (.int (zi (rn + 1))), some (.int (zi (k + 1))), some (.int (zi z152)), some (.int (zi (zq154 / 2 ^ (lw).toNat)))]) (S2 := []) rfl (by simp only [zi_add, zi_sub, zi_mul, zi_neg, zi_and1, zi_and7, zi_and15, zi_and31, zi_and255]) (by simp only [zi_add, zi_sub, zi_mul, zi_neg, zi_and1, zi_and7, zi_and15, zi_and31, zi_and255]) ?_
          have k513 := sq154.2.1
          have k513b := sq154.2.2.1
          have hl514 : hq154.2.2.2.1 bv = h35.2.2.2.1 bv := congrFun sq154.2.2.2.2.1 bv
          have hl515 : 1024 ≤ hq154.2.2.2.1 bv ∧ hq154.2.2.2.1 bv ≤ 1000000 := gJ.rowl (G := gGG) sq154.1 lp29r1 rfl
          have G516 : gSg [114] [] [56000, 56001, 56002, 56003, 71013, 71014, 114999] ty h ty36 hq154 := gSg.ss lp29G sq154 (by decide)
          clear uq154_0 uq154_1
          exact gz_wk (ihlp29 ty36 hq154 bv (rn + 1) (k + 1) cv uv hv wv (gms lp29m (by omega) (by omega)) G516 lp29u lp29c0 lp29c1 s165 lp29r1 ⟨by omega, by omega⟩ ⟨by omega, by omega⟩ lp29f2 lp29f3 lp29f4 lp29f5 (Int.le_antisymm (by omega) (by omega)) (Int.le_antisymm (by omega) (by omega)) (by omega) (by omega) (by omega) (Int.le_antisymm (by omega) (by omega)) (Int.le_antisymm (by omega) (by omega)) (Int.le_antisymm (by omega) (by omega)) (by omega) (by omega) (by omega) (by omega) (by omega) (by omega) s155 s156 s157 s158 s159 s160 s161 s162 s163 s164 pr167 pr168 hsw509 hok510 hwq512) (gLw.s (gLw.s (gLw.s (gLw.s (gLw.s (gLw.n (gLw.n gLw.z)))))))
  have hk00 : (eeRk (ewS ec79) eeN lw cf p fr tt sg fr).1 = 0 := by rw [eeRk_0]
  have hk01 : (eeRk (ewS ec79) eeN lw cf p fr tt sg fr).2.2.1 = 0 := by rw [eeRk_0]
  have k517 := sh15.2.1
  have k517b := sh15.2.2.1
  have hl518 : h15.2.2.2.1 bt = h.2.2.2.1 bt := congrFun sh15.2.2.2.2.1 bt
  have hl519 : 1024 ≤ h15.2.2.2.1 bt ∧ h15.2.2.2.1 bt ≤ 1000000 := gJ.rowl (G := gGG) sh15.1 tbt rfl
  have G520 : gSg [114] [] [56000, 56001, 56002, 56003, 71013, 71014, 114999] ty h ty h15 := gSg.ss G0 sh15 (by decide)
  exact gz_wk (lp29 _ ty h15 bt 0 fr c0 u0 h0 0 (Nat.lt_succ_self _) G520 uq tx tsk s20 tbt ⟨by omega, by omega⟩ ⟨by omega, by omega⟩ rc0 ru0 rh0 ⟨by omega, by omega⟩ (Int.le_antisymm (by omega) (by omega)) (Int.le_antisymm (by omega) (by omega)) (by omega) (by omega) (by omega) (Int.le_antisymm (by omega) (by omega)) (Int.le_antisymm (by omega) (by omega)) (Int.le_antisymm (by omega) (by omega)) (by omega) (by omega) (by omega) (by omega) (by omega) (by omega) s19 s24 s25 s26 s27 s28 s21 s22 s23 eh15 pr17 pr18 hsw31 hok32 hwq34) (gLw.s (gLw.s (gLw.s (gLw.s (gLw.s (gLw.n (gLw.n gLw.z)))))))
