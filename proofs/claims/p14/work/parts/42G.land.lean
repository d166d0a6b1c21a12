/-! ===== methods of the landed text (by program) ===== -/
set_option maxRecDepth 20000 in
set_option maxHeartbeats 4000000 in
theorem cl_ScanReader_passDamaged (d : Nat) {ty : Nat → Nat} {h : gH} (hJ : gJ rT 1027 ty h) (x : Nat) (tx : ty x = 66) (u : Int) (ru : 0 ≤ u ∧ u ≤ 63) (us : Int) (rus : 1 ≤ us ∧ us ≤ 64) (bi : Nat) (ebi : h.2.2.2.2 x 0 = .ref bi) (tbi : ty bi = 67) (src : Nat) (esrc : h.2.2.2.2 bi 0 = .ref src) (tsrc : ty src = 51) (pic : Nat) (epic : h.2.2.2.2 x 7 = .ref pic) (tpic : ty pic = 54) (bn : Nat) (ebn : h.2.2.2.2 pic 0 = .ref bn) (tbn : ty bn = 57) (b0 : Nat) (eb0 : h.2.2.2.2 bn 0 = .ref b0) (tb0 : ty b0 = 82) (b1 : Nat) (eb1 : h.2.2.2.2 bn 1 = .ref b1) (tb1 : ty b1 = 83) (b2 : Nat) (eb2 : h.2.2.2.2 bn 2 = .ref b2) (tb2 : ty b2 = 84) (dm : Nat) (edm : h.2.2.2.2 pic 3 = .ref dm) (tdm : ty dm = 113) (sz : Int) (esz : h.2.2.2.2 src 1 = .int (zi sz)) (rsz : 0 ≤ sz ∧ sz ≤ 2000) (p0 : Int) (ep0 : h.2.2.2.2 bi 1 = .int (zi p0)) (rp0 : 0 ≤ p0 ∧ p0 ≤ 2002) (cn : Int) (ecn : h.2.2.2.2 pic 7 = .int (zi cn)) (rcn : 0 ≤ cn ∧ cn ≤ 3) (uc : Int) (euc : h.2.2.2.2 pic 12 = .int (zi uc)) (ruc : 0 ≤ uc ∧ uc ≤ 8) (ur : Int) (eur : h.2.2.2.2 pic 13 = .int (zi ur)) (rur : 0 ≤ ur ∧ ur ≤ 8) (bl : Int) (ebl : h.2.2.2.2 pic 8 = .int (zi bl)) (rbl : 0 ≤ bl ∧ bl ≤ 192) (hb0 : Int) (ehb0 : h.2.2.2.2 b0 1 = .int (zi hb0)) (rhb0 : (-1) ≤ hb0 ∧ hb0 ≤ 15) (vb0 : Int) (evb0 : h.2.2.2.2 b0 2 = .int (zi vb0)) (rvb0 : 0 ≤ vb0 ∧ vb0 ≤ 15) (C0 : Int) (eC0 : h.2.2.2.2 b0 4 = .int (zi C0)) (rC0 : 0 ≤ C0 ∧ C0 ≤ 16) (R0 : Int) (eR0 : h.2.2.2.2 b0 5 = .int (zi R0)) (rR0 : 0 ≤ R0 ∧ R0 ≤ 16) (oc0 : Int) (eoc0 : h.2.2.2.2 b0 6 = .int (zi oc0)) (roc0 : 0 ≤ oc0 ∧ oc0 ≤ 16) (or0 : Int) (eor0 : h.2.2.2.2 b0 7 = .int (zi or0)) (ror0 : 0 ≤ or0 ∧ or0 ≤ 16) (f0 : Int) (ef0 : h.2.2.2.2 b0 8 = .int (zi f0)) (rf0 : 0 ≤ f0 ∧ f0 ≤ 192) (hb1 : Int) (ehb1 : h.2.2.2.2 b1 1 = .int (zi hb1)) (rhb1 : (-1) ≤ hb1 ∧ hb1 ≤ 15) (vb1 : Int) (evb1 : h.2.2.2.2 b1 2 = .int (zi vb1)) (rvb1 : 0 ≤ vb1 ∧ vb1 ≤ 15) (C1 : Int) (eC1 : h.2.2.2.2 b1 4 = .int (zi C1)) (rC1 : 0 ≤ C1 ∧ C1 ≤ 16) (R1 : Int) (eR1 : h.2.2.2.2 b1 5 = .int (zi R1)) (rR1 : 0 ≤ R1 ∧ R1 ≤ 16) (oc1 : Int) (eoc1 : h.2.2.2.2 b1 6 = .int (zi oc1)) (roc1 : 0 ≤ oc1 ∧ oc1 ≤ 16) (or1 : Int) (eor1 : h.2.2.2.2 b1 7 = .int (zi or1)) (ror1 : 0 ≤ or1 ∧ or1 ≤ 16) (f1 : Int) (ef1 : h.2.2.2.2 b1 8 = .int (zi f1)) (rf1 : 0 ≤ f1 ∧ f1 ≤ 192) (hb2 : Int) (ehb2 : h.2.2.2.2 b2 1 = .int (zi hb2)) (rhb2 : (-1) ≤ hb2 ∧ hb2 ≤ 15) (vb2 : Int) (evb2 : h.2.2.2.2 b2 2 = .int (zi vb2)) (rvb2 : 0 ≤ vb2 ∧ vb2 ≤ 15) (C2 : Int) (eC2 : h.2.2.2.2 b2 4 = .int (zi C2)) (rC2 : 0 ≤ C2 ∧ C2 ≤ 16) (R2 : Int) (eR2 : h.2.2.2.2 b2 5 = .int (zi R2)) (rR2 : 0 ≤ R2 ∧ R2 ≤ 16) (oc2 : Int) (eoc2 : h.2.2.2.2 b2 6 = .int (zi oc2)) (roc2 : 0 ≤ oc2 ∧ oc2 ≤ 16) (or2 : Int) (eor2 : h.2.2.2.2 b2 7 = .int (zi or2)) (ror2 : 0 ≤ or2 ∧ or2 ≤ 16) (f2 : Int) (ef2 : h.2.2.2.2 b2 8 = .int (zi f2)) (rf2 : 0 ≤ f2 ∧ f2 ≤ 192) (sg : Int) (esg : h.2.2.2.2 x 11 = .int (zi sg)) (rsg : 0 ≤ sg ∧ sg ≤ 1) (sb : Int) (esb : h.2.2.2.2 x 12 = .int (zi sb)) (rsb : 0 ≤ sb ∧ sb ≤ 2) (pp0 : u < us) (pp1 : sg = 1 → sb = 0 → us ≤ oc0 * or0) (pp2 : sg = 1 → sb = 1 → us ≤ oc1 * or1) (pp3 : sg = 1 → sb = 2 → us ≤ oc2 * or2) (pp4 : ¬ sg = 1 → us ≤ uc * ur) (pp5 : sg = 1 → sb < cn) (pp6 : bl ≤ (h.2.2.2.1 dm : Int)) (uq : gUq ty) (hypq0 : 0 < cn → gPq uc ur hb0 vb0 C0 R0 oc0 or0 f0 bl) (hypq1 : 1 < cn → gPq uc ur hb1 vb1 C1 R1 oc1 or1 f1 bl) (hypq2 : 2 < cn → gPq uc ur hb2 vb2 C2 R2 oc2 or2 f2 bl) : gz gPP gGG gcn (d + 3) gt57 0 (gent [.ref x, .int (zi u), .int (zi us)] 6) [] h (fun q _ => gSs rT 1027 ty [66010, 66013, 66014, 67001, 67003, 69999, 70999, 82011, 83011, 84011, 113999] h q.2.2 ∧ ∃ z p1 : Int, gfin gt57 q.1 q.2.1 = some (some (.int (zi z))) ∧ 1 ≤ z ∧ z ≤ 64 ∧ q.2.2.2.2.2.2 bi 1 = .int (zi p1) ∧ 0 ≤ p1 ∧ p1 ≤ 2002 ∧ (u < z) ∧ (z ≤ us) ∧ (p0 ≤ p1)) := by
  have hS : gSs rT 1027 ty [66010, 66013, 66014, 67001, 67003, 69999, 70999, 82011, 83011, 84011, 113999] h h := gSs.rf hJ
  refine gz_s 3 (pc' := 3) (L' := [some (.ref x), some (.int (zi u)), some (.int (zi us)), none, none, none]) (S' := [.int (zi us), .int (zi u), .ref x]) rfl ?_
  refine gz_call rfl (by decide) rfl (by decide) (by decide) (gcal_of rfl rfl rfl (Nat.le_of_ble_eq_true rfl) (gJ.recv (G := gGG) hS.1 tx rfl rfl)) (cl_ScanReader_unitBehindDamage _ hS.1 x tx u (by omega) us (by omega) bi ebi tbi src esrc tsrc pic epic tpic sz esz (by omega) p0 ep0 (by omega) (by omega) uq) (fun q1 _ wq1 => ?_)
  obtain ⟨pq1, oq1, hq1⟩ := q1
  obtain ⟨xq1, zq1, fq1_0, gq1, aq1, bq1, efq1_0, afq1_0, bfq1_0, uq1_0, uq1_1, uq1_2⟩ := wq1
  refine ⟨_, gq1, ?_⟩
  show gz gPP gGG gcn _ _ 6 [some (.ref x), some (.int (zi u)), some (.int (zi us)), none, none, none] [.int (zi zq1)] hq1 _
  have sq1 : gSs rT 1027 ty [66010, 66013, 66014, 67001, 67003, 69999, 70999, 82011, 83011, 84011, 113999] h hq1 := gSs.tr hS xq1 (by decide)
  have s2 := (xq1.2.2.2.2.2 x 0 (by rw [tx]; decide)).trans ebi
  have s3 := (xq1.2.2.2.2.2 bi 0 (by rw [tbi]; decide)).trans esrc
  have s4 := (xq1.2.2.2.2.2 x 7 (by rw [tx]; decide)).trans epic
  have s5 := (xq1.2.2.2.2.2 pic 0 (by rw [tpic]; decide)).trans ebn
  have s6 := (xq1.2.2.2.2.2 bn 0 (by rw [tbn]; decide)).trans eb0
  have s7 := (xq1.2.2.2.2.2 bn 1 (by rw [tbn]; decide)).trans eb1
  have s8 := (xq1.2.2.2.2.2 bn 2 (by rw [tbn]; decide)).trans eb2
  have s9 := (xq1.2.2.2.2.2 pic 3 (by rw [tpic]; decide)).trans edm
  have s10 := (xq1.2.2.2.2.2 src 1 (by rw [tsrc]; decide)).trans esz
  have s11 := (xq1.2.2.2.2.2 pic 7 (by rw [tpic]; decide)).trans ecn
  have s12 := (xq1.2.2.2.2.2 pic 12 (by rw [tpic]; decide)).trans euc
  have s13 := (xq1.2.2.2.2.2 pic 13 (by rw [tpic]; decide)).trans eur
  have s14 := (xq1.2.2.2.2.2 pic 8 (by rw [tpic]; decide)).trans ebl
  have s15 := (xq1.2.2.2.2.2 b0 1 (by rw [tb0]; decide)).trans ehb0
  have s16 := (xq1.2.2.2.2.2 b0 2 (by rw [tb0]; decide)).trans evb0
  have s17 := (xq1.2.2.2.2.2 b0 4 (by rw [tb0]; decide)).trans eC0
  have s18 := (xq1.2.2.2.2.2 b0 5 (by rw [tb0]; decide)).trans eR0
  have s19 := (xq1.2.2.2.2.2 b0 6 (by rw [tb0]; decide)).trans eoc0
  have s20 := (xq1.2.2.2.2.2 b0 7 (by rw [tb0]; decide)).trans eor0
  have s21 := (xq1.2.2.2.2.2 b0 8 (by rw [tb0]; decide)).trans ef0
  have s22 := (xq1.2.2.2.2.2 b1 1 (by rw [tb1]; decide)).trans ehb1
  have s23 := (xq1.2.2.2.2.2 b1 2 (by rw [tb1]; decide)).trans evb1
  have s24 := (xq1.2.2.2.2.2 b1 4 (by rw [tb1]; decide)).trans eC1
  have s25 := (xq1.2.2.2.2.2 b1 5 (by rw [tb1]; decide)).trans eR1
  have s26 := (xq1.2.2.2.2.2 b1 6 (by rw [tb1]; decide)).trans eoc1
  have s27 := (xq1.2.2.2.2.2 b1 7 (by rw [tb1]; decide)).trans eor1
  have s28 := (xq1.2.2.2.2.2 b1 8 (by rw [tb1]; decide)).trans ef1
  have s29 := (xq1.2.2.2.2.2 b2 1 (by rw [tb2]; decide)).trans ehb2
  have s30 := (xq1.2.2.2.2.2 b2 2 (by rw [tb2]; decide)).trans evb2
  have s31 := (xq1.2.2.2.2.2 b2 4 (by rw [tb2]; decide)).trans eC2
  have s32 := (xq1.2.2.2.2.2 b2 5 (by rw [tb2]; decide)).trans eR2
  have s33 := (xq1.2.2.2.2.2 b2 6 (by rw [tb2]; decide)).trans eoc2
  have s34 := (xq1.2.2.2.2.2 b2 7 (by rw [tb2]; decide)).trans eor2
  have s35 := (xq1.2.2.2.2.2 b2 8 (by rw [tb2]; decide)).trans ef2
  have s36 := (xq1.2.2.2.2.2 x 11 (by rw [tx]; decide)).trans esg
  have s37 := (xq1.2.2.2.2.2 x 12 (by rw [tx]; decide)).trans esb
  refine gz_s 3 (pc' := 10) (L' := [some (.ref x), some (.int (zi u)), some (.int (zi us)), some (.int (zi zq1)), some (.int (zi u)), none]) (S' := []) rfl ?_
  have lp38 : ∀ (fu : Nat) (h39 : gH) (i : Int), (65 - i).toNat < fu → gSs rT 1027 ty [66010, 66013, 66014, 67001, 67003, 69999, 70999, 82011, 83011, 84011, 113999] h h39 → (0 ≤ i ∧ i ≤ 64) → h39.2.2.2.2 x 0 = .ref bi → h39.2.2.2.2 bi 0 = .ref src → h39.2.2.2.2 x 7 = .ref pic → h39.2.2.2.2 pic 0 = .ref bn → h39.2.2.2.2 bn 0 = .ref b0 → h39.2.2.2.2 bn 1 = .ref b1 → h39.2.2.2.2 bn 2 = .ref b2 → h39.2.2.2.2 pic 3 = .ref dm → h39.2.2.2.2 src 1 = .int (zi sz) → h39.2.2.2.2 pic 7 = .int (zi cn) → h39.2.2.2.2 pic 12 = .int (zi uc) → h39.2.2.2.2 pic 13 = .int (zi ur) → h39.2.2.2.2 pic 8 = .int (zi bl) → h39.2.2.2.2 b0 1 = .int (zi hb0) → h39.2.2.2.2 b0 2 = .int (zi vb0) → h39.2.2.2.2 b0 4 = .int (zi C0) → h39.2.2.2.2 b0 5 = .int (zi R0) → h39.2.2.2.2 b0 6 = .int (zi oc0) → h39.2.2.2.2 b0 7 = .int (zi or0) → h39.2.2.2.2 b0 8 = .int (zi f0) → h39.2.2.2.2 b1 1 = .int (zi hb1) → h39.2.2.2.2 b1 2 = .int (zi vb1) → h39.2.2.2.2 b1 4 = .int (zi C1) → h39.2.2.2.2 b1 5 = .int (zi R1) → h39.2.2.2.2 b1 6 = .int (zi oc1) → h39.2.2.2.2 b1 7 = .int (zi or1) → h39.2.2.2.2 b1 8 = .int (zi f1) → h39.2.2.2.2 b2 1 = .int (zi hb2) → h39.2.2.2.2 b2 2 = .int (zi vb2) → h39.2.2.2.2 b2 4 = .int (zi C2) → h39.2.2.2.2 b2 5 = .int (zi R2) → h39.2.2.2.2 b2 6 = .int (zi oc2) → h39.2.2.2.2 b2 7 = .int (zi or2) → h39.2.2.2.2 b2 8 = .int (zi f2) → h39.2.2.2.2 x 11 = .int (zi sg) → h39.2.2.2.2 x 12 = .int (zi sb) → h39.2.2.2.2 bi 1 = .int (zi fq1_0) → (0 < cn → gPq uc ur hb0 vb0 C0 R0 oc0 or0 f0 bl) → (1 < cn → gPq uc ur hb1 vb1 C1 R1 oc1 or1 f1 bl) → (2 < cn → gPq uc ur hb2 vb2 C2 R2 oc2 or2 f2 bl) → gz gPP gGG gcn (d + 3) gt57 10 [some (.ref x), some (.int (zi u)), some (.int (zi us)), some (.int (zi zq1)), some (.int (zi i)), none] [] h39 (fun q _ => gSs rT 1027 ty [66010, 66013, 66014, 67001, 67003, 69999, 70999, 82011, 83011, 84011, 113999] h q.2.2 ∧ ∃ z p1 : Int, gfin gt57 q.1 q.2.1 = some (some (.int (zi z))) ∧ 1 ≤ z ∧ z ≤ 64 ∧ q.2.2.2.2.2.2 bi 1 = .int (zi p1) ∧ 0 ≤ p1 ∧ p1 ≤ 2002 ∧ (u < z) ∧ (z ≤ us) ∧ (p0 ≤ p1)) := by
    intro fu
    induction fu with
    | zero => intro h39 i hm; exact absurd hm (Nat.not_lt_zero _)
    | succ fu ihlp38 =>
      intro h39 i lp38m sh39 lp38f0 lp38k0 lp38k1 lp38k2 lp38k3 lp38k4 lp38k5 lp38k6 lp38k7 lp38k8 lp38k9 lp38k10 lp38k11 lp38k12 lp38k13 lp38k14 lp38k15 lp38k16 lp38k17 lp38k18 lp38k19 lp38k20 lp38k21 lp38k22 lp38k23 lp38k24 lp38k25 lp38k26 lp38k27 lp38k28 lp38k29 lp38k30 lp38k31 lp38k32 lp38k33 lp38k34 lp38k35 lp38k36 lp38k37 lp38k38 lp38k39
      refine gz_s 2 (pc' := 13) (L' := [some (.ref x), some (.int (zi u)), some (.int (zi us)), some (.int (zi zq1)), some (.int (zi i)), none]) (S' := [.int (zi zq1), .int (zi i)]) rfl ?_
      by_cases hc40 : (zq1 : Int) ≤ i
      · refine gy_icT (pc' := 62) rfl (by decide) (by decide) (by omega) (by omega) hc40 ?_
        refine gz_s 1 (pc' := 63) (L' := [some (.ref x), some (.int (zi u)), some (.int (zi us)), some (.int (zi zq1)), some (.int (zi i)), none]) (S' := [.int (zi zq1)]) rfl ?_
        exact gz_end (I := .ireturn) (len := 1) rfl (Or.inl rfl) ⟨sh39, zq1, fq1_0, rfl, (by omega), (by omega), lp38k36, (by omega), (by omega), (by omega), (by omega), (by omega)⟩
      · refine gy_icF rfl (by decide) (by decide) (by omega) (by omega) hc40 ?_
        refine gz_s 2 (pc' := 19) (L' := [some (.ref x), some (.int (zi u)), some (.int (zi us)), some (.int (zi zq1)), some (.int (zi i)), none]) (S' := [.int (zi i), .ref x]) rfl ?_
        refine gz_call rfl (by decide) rfl (by decide) (by decide) (gcal_of rfl rfl rfl (Nat.le_of_ble_eq_true rfl) (gJ.recv (G := gGG) sh39.1 tx rfl rfl)) (cl_ScanReader_listBlocks _ sh39.1 x tx i (by omega) pic lp38k2 tpic bn lp38k3 tbn b0 lp38k4 tb0 b1 lp38k5 tb1 b2 lp38k6 tb2 cn lp38k9 (by omega) uc lp38k10 (by omega) ur lp38k11 (by omega) bl lp38k12 (by omega) hb0 lp38k13 (by omega) vb0 lp38k14 (by omega) C0 lp38k15 (by omega) R0 lp38k16 (by omega) oc0 lp38k17 (by omega) or0 lp38k18 (by omega) f0 lp38k19 (by omega) hb1 lp38k20 (by omega) vb1 lp38k21 (by omega) C1 lp38k22 (by omega) R1 lp38k23 (by omega) oc1 lp38k24 (by omega) or1 lp38k25 (by omega) f1 lp38k26 (by omega) hb2 lp38k27 (by omega) vb2 lp38k28 (by omega) C2 lp38k29 (by omega) R2 lp38k30 (by omega) oc2 lp38k31 (by omega) or2 lp38k32 (by omega) f2 lp38k33 (by omega) sg lp38k34 (by omega) sb lp38k35 (by omega) (by omega) (by omega) (by omega) (by omega) (by omega) uq lp38k37 lp38k38 lp38k39) (fun q41 _ wq41 => ?_)
        obtain ⟨pq41, oq41, hq41⟩ := q41
        obtain ⟨xq41, fq41_0, gq41, efq41_0, afq41_0, bfq41_0, yq41_0⟩ := wq41
        refine ⟨_, gq41, ?_⟩
        show gz gPP gGG gcn _ _ 22 [some (.ref x), some (.int (zi u)), some (.int (zi us)), some (.int (zi zq1)), some (.int (zi i)), none] [] hq41 _
        have sq41 : gSs rT 1027 ty [66010, 66013, 66014, 67001, 67003, 69999, 70999, 82011, 83011, 84011, 113999] h hq41 := gSs.tr sh39 xq41 (by decide)
        have s42 := (xq41.2.2.2.2.2 x 0 (by rw [tx]; decide)).trans lp38k0
        have s43 := (xq41.2.2.2.2.2 bi 0 (by rw [tbi]; decide)).trans lp38k1
        have s44 := (xq41.2.2.2.2.2 x 7 (by rw [tx]; decide)).trans lp38k2
        have s45 := (xq41.2.2.2.2.2 pic 0 (by rw [tpic]; decide)).trans lp38k3
        have s46 := (xq41.2.2.2.2.2 bn 0 (by rw [tbn]; decide)).trans lp38k4
        have s47 := (xq41.2.2.2.2.2 bn 1 (by rw [tbn]; decide)).trans lp38k5
        have s48 := (xq41.2.2.2.2.2 bn 2 (by rw [tbn]; decide)).trans lp38k6
        have s49 := (xq41.2.2.2.2.2 pic 3 (by rw [tpic]; decide)).trans lp38k7
        have s50 := (xq41.2.2.2.2.2 src 1 (by rw [tsrc]; decide)).trans lp38k8
        have s51 := (xq41.2.2.2.2.2 pic 7 (by rw [tpic]; decide)).trans lp38k9
        have s52 := (xq41.2.2.2.2.2 pic 12 (by rw [tpic]; decide)).trans lp38k10
        have s53 := (xq41.2.2.2.2.2 pic 13 (by rw [tpic]; decide)).trans lp38k11
        have s54 := (xq41.2.2.2.2.2 pic 8 (by rw [tpic]; decide)).trans lp38k12
        have s55 := (xq41.2.2.2.2.2 b0 1 (by rw [tb0]; decide)).trans lp38k13
        have s56 := (xq41.2.2.2.2.2 b0 2 (by rw [tb0]; decide)).trans lp38k14
        have s57 := (xq41.2.2.2.2.2 b0 4 (by rw [tb0]; decide)).trans lp38k15
        have s58 := (xq41.2.2.2.2.2 b0 5 (by rw [tb0]; decide)).trans lp38k16
        have s59 := (xq41.2.2.2.2.2 b0 6 (by rw [tb0]; decide)).trans lp38k17
        have s60 := (xq41.2.2.2.2.2 b0 7 (by rw [tb0]; decide)).trans lp38k18
        have s61 := (xq41.2.2.2.2.2 b0 8 (by rw [tb0]; decide)).trans lp38k19
        have s62 := (xq41.2.2.2.2.2 b1 1 (by rw [tb1]; decide)).trans lp38k20
        have s63 := (xq41.2.2.2.2.2 b1 2 (by rw [tb1]; decide)).trans lp38k21
        have s64 := (xq41.2.2.2.2.2 b1 4 (by rw [tb1]; decide)).trans lp38k22
        have s65 := (xq41.2.2.2.2.2 b1 5 (by rw [tb1]; decide)).trans lp38k23
        have s66 := (xq41.2.2.2.2.2 b1 6 (by rw [tb1]; decide)).trans lp38k24
        have s67 := (xq41.2.2.2.2.2 b1 7 (by rw [tb1]; decide)).trans lp38k25
        have s68 := (xq41.2.2.2.2.2 b1 8 (by rw [tb1]; decide)).trans lp38k26
        have s69 := (xq41.2.2.2.2.2 b2 1 (by rw [tb2]; decide)).trans lp38k27
        have s70 := (xq41.2.2.2.2.2 b2 2 (by rw [tb2]; decide)).trans lp38k28
        have s71 := (xq41.2.2.2.2.2 b2 4 (by rw [tb2]; decide)).trans lp38k29
        have s72 := (xq41.2.2.2.2.2 b2 5 (by rw [tb2]; decide)).trans lp38k30
        have s73 := (xq41.2.2.2.2.2 b2 6 (by rw [tb2]; decide)).trans lp38k31
        have s74 := (xq41.2.2.2.2.2 b2 7 (by rw [tb2]; decide)).trans lp38k32
        have s75 := (xq41.2.2.2.2.2 b2 8 (by rw [tb2]; decide)).trans lp38k33
        have s76 := (xq41.2.2.2.2.2 x 11 (by rw [tx]; decide)).trans lp38k34
        have s77 := (xq41.2.2.2.2.2 x 12 (by rw [tx]; decide)).trans lp38k35
        have s78 := (xq41.2.2.2.2.2 bi 1 (by rw [tbi]; decide)).trans lp38k36
        refine gz_s 2 (pc' := 25) (L' := [some (.ref x), some (.int (zi u)), some (.int (zi us)), some (.int (zi zq1)), some (.int (zi i)), some (.int (zi 0))]) (S' := []) rfl ?_
        have lp79 : ∀ (fu : Nat) (h80 : gH) (j : Int), (13 - j).toNat < fu → gSs rT 1027 ty [66010, 66013, 66014, 67001, 67003, 69999, 70999, 82011, 83011, 84011, 113999] h h80 → (0 ≤ j ∧ j ≤ 12) → h80.2.2.2.2 x 0 = .ref bi → h80.2.2.2.2 bi 0 = .ref src → h80.2.2.2.2 x 7 = .ref pic → h80.2.2.2.2 pic 0 = .ref bn → h80.2.2.2.2 bn 0 = .ref b0 → h80.2.2.2.2 bn 1 = .ref b1 → h80.2.2.2.2 bn 2 = .ref b2 → h80.2.2.2.2 pic 3 = .ref dm → h80.2.2.2.2 src 1 = .int (zi sz) → h80.2.2.2.2 pic 7 = .int (zi cn) → h80.2.2.2.2 pic 12 = .int (zi uc) → h80.2.2.2.2 pic 13 = .int (zi ur) → h80.2.2.2.2 pic 8 = .int (zi bl) → h80.2.2.2.2 b0 1 = .int (zi hb0) → h80.2.2.2.2 b0 2 = .int (zi vb0) → h80.2.2.2.2 b0 4 = .int (zi C0) → h80.2.2.2.2 b0 5 = .int (zi R0) → h80.2.2.2.2 b0 6 = .int (zi oc0) → h80.2.2.2.2 b0 7 = .int (zi or0) → h80.2.2.2.2 b0 8 = .int (zi f0) → h80.2.2.2.2 b1 1 = .int (zi hb1) → h80.2.2.2.2 b1 2 = .int (zi vb1) → h80.2.2.2.2 b1 4 = .int (zi C1) → h80.2.2.2.2 b1 5 = .int (zi R1) → h80.2.2.2.2 b1 6 = .int (zi oc1) → h80.2.2.2.2 b1 7 = .int (zi or1) → h80.2.2.2.2 b1 8 = .int (zi f1) → h80.2.2.2.2 b2 1 = .int (zi hb2) → h80.2.2.2.2 b2 2 = .int (zi vb2) → h80.2.2.2.2 b2 4 = .int (zi C2) → h80.2.2.2.2 b2 5 = .int (zi R2) → h80.2.2.2.2 b2 6 = .int (zi oc2) → h80.2.2.2.2 b2 7 = .int (zi or2) → h80.2.2.2.2 b2 8 = .int (zi f2) → h80.2.2.2.2 x 11 = .int (zi sg) → h80.2.2.2.2 x 12 = .int (zi sb) → h80.2.2.2.2 bi 1 = .int (zi fq1_0) → h80.2.2.2.2 x 10 = .int (zi fq41_0) → (0 < cn → gPq uc ur hb0 vb0 C0 R0 oc0 or0 f0 bl) → (1 < cn → gPq uc ur hb1 vb1 C1 R1 oc1 or1 f1 bl) → (2 < cn → gPq uc ur hb2 vb2 C2 R2 oc2 or2 f2 bl) → gUb ty fq41_0 bl h80 → gz gPP gGG gcn (d + 3) gt57 25 [some (.ref x), some (.int (zi u)), some (.int (zi us)), some (.int (zi zq1)), some (.int (zi i)), some (.int (zi j))] [] h80 (fun q _ => gSs rT 1027 ty [66010, 66013, 66014, 67001, 67003, 69999, 70999, 82011, 83011, 84011, 113999] h q.2.2 ∧ ∃ z p1 : Int, gfin gt57 q.1 q.2.1 = some (some (.int (zi z))) ∧ 1 ≤ z ∧ z ≤ 64 ∧ q.2.2.2.2.2.2 bi 1 = .int (zi p1) ∧ 0 ≤ p1 ∧ p1 ≤ 2002 ∧ (u < z) ∧ (z ≤ us) ∧ (p0 ≤ p1)) := by
          intro fu
          induction fu with
          | zero => intro h80 j hm; exact absurd hm (Nat.not_lt_zero _)
          | succ fu ihlp79 =>
            intro h80 j lp79m sh80 lp79f0 lp79k0 lp79k1 lp79k2 lp79k3 lp79k4 lp79k5 lp79k6 lp79k7 lp79k8 lp79k9 lp79k10 lp79k11 lp79k12 lp79k13 lp79k14 lp79k15 lp79k16 lp79k17 lp79k18 lp79k19 lp79k20 lp79k21 lp79k22 lp79k23 lp79k24 lp79k25 lp79k26 lp79k27 lp79k28 lp79k29 lp79k30 lp79k31 lp79k32 lp79k33 lp79k34 lp79k35 lp79k36 lp79k37 lp79k38 lp79k39 lp79k40 lp79k41
            refine gz_s 2 (pc' := 28) (L' := [some (.ref x), some (.int (zi u)), some (.int (zi us)), some (.int (zi zq1)), some (.int (zi i)), some (.int (zi j))]) (S' := [.ref x, .int (zi j)]) rfl ?_
            refine gs_gtk rfl (by decide) rfl sh80.1 tx rfl rfl lp79k37 ?_
            by_cases hc81 : (fq41_0 : Int) ≤ j
            · refine gy_icT (pc' := 56) rfl (by decide) (by decide) (by omega) (by omega) hc81 ?_
              refine gy_s 2 (pc' := 10) (L' := [some (.ref x), some (.int (zi u)), some (.int (zi us)), some (.int (zi zq1)), some (.int ((zi i) + zi 1)), some (.int (zi j))]) (S' := []) (L2 := [some (.ref x), some (.int (zi u)), some (.int (zi us)), some (.int (zi zq1)), some (.int (zi (i + 1))), some (.int (zi j))]) (S2 := []) rfl (by simp only [zi_add, zi_sub, zi_mul, zi_neg, zi_and1, zi_and7, zi_and15, zi_and31, zi_and255]) (by simp only [zi_add, zi_sub, zi_mul, zi_neg, zi_and1, zi_and7, zi_and15, zi_and31, zi_and255]) ?_
              exact gz_wk (ihlp38 h80 (i + 1) (by omega) sh80 (by omega) lp79k0 lp79k1 lp79k2 lp79k3 lp79k4 lp79k5 lp79k6 lp79k7 lp79k8 lp79k9 lp79k10 lp79k11 lp79k12 lp79k13 lp79k14 lp79k15 lp79k16 lp79k17 lp79k18 lp79k19 lp79k20 lp79k21 lp79k22 lp79k23 lp79k24 lp79k25 lp79k26 lp79k27 lp79k28 lp79k29 lp79k30 lp79k31 lp79k32 lp79k33 lp79k34 lp79k35 lp79k36 lp79k38 lp79k39 lp79k40) (gLw.s (gLw.s (gLw.s (gLw.s (gLw.s (gLw.n gLw.z))))))
            · refine gy_icF rfl (by decide) (by decide) (by omega) (by omega) hc81 ?_
              refine gz_s 1 (pc' := 35) (L' := [some (.ref x), some (.int (zi u)), some (.int (zi us)), some (.int (zi zq1)), some (.int (zi i)), some (.int (zi j))]) (S' := [.ref x]) rfl ?_
              refine gs_gtk rfl (by decide) rfl sh80.1 tx rfl rfl lp79k2 ?_
              refine gs_gtk rfl (by decide) rfl sh80.1 tpic rfl rfl lp79k7 ?_
              refine gz_s 1 (pc' := 42) (L' := [some (.ref x), some (.int (zi u)), some (.int (zi us)), some (.int (zi zq1)), some (.int (zi i)), some (.int (zi j))]) (S' := [.ref x, .ref dm]) rfl ?_
              refine gs_gtr rfl (by decide) rfl sh80.1 tx rfl rfl rfl (fun c82 ec82 tc82 => ?_)
              refine gz_s 1 (pc' := 47) (L' := [some (.ref x), some (.int (zi u)), some (.int (zi us)), some (.int (zi zq1)), some (.int (zi i)), some (.int (zi j))]) (S' := [.int (zi j), .ref c82, .ref dm]) rfl ?_
              have pr83 := lp79k41 j (by omega) (by omega)
              have hl84 : 12 ≤ h80.2.2.2.1 c82 ∧ h80.2.2.2.1 c82 ≤ 12 := gJ.rowl (G := gGG) sh80.1 tc82 rfl
              refine gs_ald rfl (by decide) sh80.1 tc82 rfl rfl rfl (by decide) (fun _ => rfl) (by omega) (by omega) (fun z85 ez85 az85 bz85 => ?_)
              have he86 := pr83 c82 z85 tc82 ez85 (by omega) (by omega)
              refine gz_s 1 (pc' := 49) (L' := [some (.ref x), some (.int (zi u)), some (.int (zi us)), some (.int (zi zq1)), some (.int (zi i)), some (.int (zi j))]) (S' := [.int (zi 1), .int (zi z85), .ref dm]) rfl ?_
              have hl87 : 0 ≤ h80.2.2.2.1 dm ∧ h80.2.2.2.1 dm ≤ 192 := gJ.rowl (G := gGG) sh80.1 tdm rfl
              have hl88 : h80.2.2.2.1 dm = h.2.2.2.1 dm := congrFun sh80.2.2.2.2.1 dm
              refine gs_ast rfl (by decide) sh80 tdm rfl rfl rfl (by decide) (fun _ => rfl) (by omega) (by omega) (fun _ => (by decide : (113999 : Nat) ∈ ([66010, 66013, 66014, 67001, 67003, 69999, 70999, 82011, 83011, 84011, 113999] : List Nat))) (by omega) (by omega) (fun h89 sh89 eh89 fh89 => ?_)
              have pr90 := gUb.pt fh89 tdm (by decide) lp79k41
              have pr91 := gEl.pt fh89 tdm (by decide) pr83
              have s92 := (fh89 x 0 (fun q => absurd (((tx).symm.trans (congrArg ty q.1)).trans tdm) (by decide))).trans lp79k0
              have s93 := (fh89 bi 0 (fun q => absurd (((tbi).symm.trans (congrArg ty q.1)).trans tdm) (by decide))).trans lp79k1
              have s94 := (fh89 x 7 (fun q => absurd (((tx).symm.trans (congrArg ty q.1)).trans tdm) (by decide))).trans lp79k2
              have s95 := (fh89 pic 0 (fun q => absurd (((tpic).symm.trans (congrArg ty q.1)).trans tdm) (by decide))).trans lp79k3
              have s96 := (fh89 bn 0 (fun q => absurd (((tbn).symm.trans (congrArg ty q.1)).trans tdm) (by decide))).trans lp79k4
              have s97 := (fh89 bn 1 (fun q => absurd (((tbn).symm.trans (congrArg ty q.1)).trans tdm) (by decide))).trans lp79k5
              have s98 := (fh89 bn 2 (fun q => absurd (((tbn).symm.trans (congrArg ty q.1)).trans tdm) (by decide))).trans lp79k6
              have s99 := (fh89 pic 3 (fun q => absurd (((tpic).symm.trans (congrArg ty q.1)).trans tdm) (by decide))).trans lp79k7
              have s100 := (fh89 src 1 (fun q => absurd (((tsrc).symm.trans (congrArg ty q.1)).trans tdm) (by decide))).trans lp79k8
              have s101 := (fh89 pic 7 (fun q => absurd (((tpic).symm.trans (congrArg ty q.1)).trans tdm) (by decide))).trans lp79k9
              have s102 := (fh89 pic 12 (fun q => absurd (((tpic).symm.trans (congrArg ty q.1)).trans tdm) (by decide))).trans lp79k10
              have s103 := (fh89 pic 13 (fun q => absurd (((tpic).symm.trans (congrArg ty q.1)).trans tdm) (by decide))).trans lp79k11
              have s104 := (fh89 pic 8 (fun q => absurd (((tpic).symm.trans (congrArg ty q.1)).trans tdm) (by decide))).trans lp79k12
              have s105 := (fh89 b0 1 (fun q => absurd (((tb0).symm.trans (congrArg ty q.1)).trans tdm) (by decide))).trans lp79k13
              have s106 := (fh89 b0 2 (fun q => absurd (((tb0).symm.trans (congrArg ty q.1)).trans tdm) (by decide))).trans lp79k14
              have s107 := (fh89 b0 4 (fun q => absurd (((tb0).symm.trans (congrArg ty q.1)).trans tdm) (by decide))).trans lp79k15
              have s108 := (fh89 b0 5 (fun q => absurd (((tb0).symm.trans (congrArg ty q.1)).trans tdm) (by decide))).trans lp79k16
              have s109 := (fh89 b0 6 (fun q => absurd (((tb0).symm.trans (congrArg ty q.1)).trans tdm) (by decide))).trans lp79k17
              have s110 := (fh89 b0 7 (fun q => absurd (((tb0).symm.trans (congrArg ty q.1)).trans tdm) (by decide))).trans lp79k18
              have s111 := (fh89 b0 8 (fun q => absurd (((tb0).symm.trans (congrArg ty q.1)).trans tdm) (by decide))).trans lp79k19
              have s112 := (fh89 b1 1 (fun q => absurd (((tb1).symm.trans (congrArg ty q.1)).trans tdm) (by decide))).trans lp79k20
              have s113 := (fh89 b1 2 (fun q => absurd (((tb1).symm.trans (congrArg ty q.1)).trans tdm) (by decide))).trans lp79k21
              have s114 := (fh89 b1 4 (fun q => absurd (((tb1).symm.trans (congrArg ty q.1)).trans tdm) (by decide))).trans lp79k22
              have s115 := (fh89 b1 5 (fun q => absurd (((tb1).symm.trans (congrArg ty q.1)).trans tdm) (by decide))).trans lp79k23
              have s116 := (fh89 b1 6 (fun q => absurd (((tb1).symm.trans (congrArg ty q.1)).trans tdm) (by decide))).trans lp79k24
              have s117 := (fh89 b1 7 (fun q => absurd (((tb1).symm.trans (congrArg ty q.1)).trans tdm) (by decide))).trans lp79k25
              have s118 := (fh89 b1 8 (fun q => absurd (((tb1).symm.trans (congrArg ty q.1)).trans tdm) (by decide))).trans lp79k26
              have s119 := (fh89 b2 1 (fun q => absurd (((tb2).symm.trans (congrArg ty q.1)).trans tdm) (by decide))).trans lp79k27
              have s120 := (fh89 b2 2 (fun q => absurd (((tb2).symm.trans (congrArg ty q.1)).trans tdm) (by decide))).trans lp79k28
              have s121 := (fh89 b2 4 (fun q => absurd (((tb2).symm.trans (congrArg ty q.1)).trans tdm) (by decide))).trans lp79k29
              have s122 := (fh89 b2 5 (fun q => absurd (((tb2).symm.trans (congrArg ty q.1)).trans tdm) (by decide))).trans lp79k30
              have s123 := (fh89 b2 6 (fun q => absurd (((tb2).symm.trans (congrArg ty q.1)).trans tdm) (by decide))).trans lp79k31
              have s124 := (fh89 b2 7 (fun q => absurd (((tb2).symm.trans (congrArg ty q.1)).trans tdm) (by decide))).trans lp79k32
              have s125 := (fh89 b2 8 (fun q => absurd (((tb2).symm.trans (congrArg ty q.1)).trans tdm) (by decide))).trans lp79k33
              have s126 := (fh89 x 11 (fun q => absurd (((tx).symm.trans (congrArg ty q.1)).trans tdm) (by decide))).trans lp79k34
              have s127 := (fh89 x 12 (fun q => absurd (((tx).symm.trans (congrArg ty q.1)).trans tdm) (by decide))).trans lp79k35
              have s128 := (fh89 bi 1 (fun q => absurd (((tbi).symm.trans (congrArg ty q.1)).trans tdm) (by decide))).trans lp79k36
              have s129 := (fh89 x 10 (fun q => absurd (((tx).symm.trans (congrArg ty q.1)).trans tdm) (by decide))).trans lp79k37
              have s130 := (fh89 x 9 (fun q => absurd (((tx).symm.trans (congrArg ty q.1)).trans tdm) (by decide))).trans ec82
              refine gy_s 2 (pc' := 25) (L' := [some (.ref x), some (.int (zi u)), some (.int (zi us)), some (.int (zi zq1)), some (.int (zi i)), some (.int ((zi j) + zi 1))]) (S' := []) (L2 := [some (.ref x), some (.int (zi u)), some (.int (zi us)), some (.int (zi zq1)), some (.int (zi i)), some (.int (zi (j + 1)))]) (S2 := []) rfl (by simp only [zi_add, zi_sub, zi_mul, zi_neg, zi_and1, zi_and7, zi_and15, zi_and31, zi_and255]) (by simp only [zi_add, zi_sub, zi_mul, zi_neg, zi_and1, zi_and7, zi_and15, zi_and31, zi_and255]) ?_
              exact gz_wk (ihlp79 h89 (j + 1) (by omega) sh89 (by omega) s92 s93 s94 s95 s96 s97 s98 s99 s100 s101 s102 s103 s104 s105 s106 s107 s108 s109 s110 s111 s112 s113 s114 s115 s116 s117 s118 s119 s120 s121 s122 s123 s124 s125 s126 s127 s128 s129 lp79k38 lp79k39 lp79k40 pr90) (gLw.s (gLw.s (gLw.s (gLw.s (gLw.s (gLw.s gLw.z))))))
        exact gz_wk (lp79 _ hq41 0 (Nat.lt_succ_self _) sq41 (by omega) s42 s43 s44 s45 s46 s47 s48 s49 s50 s51 s52 s53 s54 s55 s56 s57 s58 s59 s60 s61 s62 s63 s64 s65 s66 s67 s68 s69 s70 s71 s72 s73 s74 s75 s76 s77 s78 efq41_0 lp38k37 lp38k38 lp38k39 yq41_0) (gLw.s (gLw.s (gLw.s (gLw.s (gLw.s (gLw.s gLw.z))))))
  exact gz_wk (lp38 _ hq1 u (Nat.lt_succ_self _) sq1 (by omega) s2 s3 s4 s5 s6 s7 s8 s9 s10 s11 s12 s13 s14 s15 s16 s17 s18 s19 s20 s21 s22 s23 s24 s25 s26 s27 s28 s29 s30 s31 s32 s33 s34 s35 s36 s37 efq1_0 hypq0 hypq1 hypq2) (gLw.s (gLw.s (gLw.s (gLw.s (gLw.s (gLw.n gLw.z))))))
set_option maxRecDepth 20000 in
set_option maxHeartbeats 4000000 in
theorem cl_ScanReader_readUnits (d : Nat) {ty : Nat → Nat} {h : gH} (hJ : gJ rT 1027 ty h) (x : Nat) (tx : ty x = 66) (p : Int) (rp : 0 ≤ p ∧ p ≤ 2002) (bi : Nat) (ebi : h.2.2.2.2 x 0 = .ref bi) (tbi : ty bi = 67) (src : Nat) (esrc : h.2.2.2.2 bi 0 = .ref src) (tsrc : ty src = 51) (pic : Nat) (epic : h.2.2.2.2 x 7 = .ref pic) (tpic : ty pic = 54) (co : Nat) (eco : h.2.2.2.2 pic 2 = .ref co) (tco : ty co = 112) (bn : Nat) (ebn : h.2.2.2.2 pic 0 = .ref bn) (tbn : ty bn = 57) (b0 : Nat) (eb0 : h.2.2.2.2 bn 0 = .ref b0) (tb0 : ty b0 = 82) (b1 : Nat) (eb1 : h.2.2.2.2 bn 1 = .ref b1) (tb1 : ty b1 = 83) (b2 : Nat) (eb2 : h.2.2.2.2 bn 2 = .ref b2) (tb2 : ty b2 = 84) (dm : Nat) (edm : h.2.2.2.2 pic 3 = .ref dm) (tdm : ty dm = 113) (sz : Int) (esz : h.2.2.2.2 src 1 = .int (zi sz)) (rsz : 0 ≤ sz ∧ sz ≤ 2000) (tt : Int) (ett : h.2.2.2.2 x 3 = .int (zi tt)) (rtt : (-1) ≤ tt ∧ tt ≤ 63) (fr : Int) (efr : h.2.2.2.2 x 2 = .int (zi fr)) (rfr : 0 ≤ fr ∧ fr ≤ 63) (cn : Int) (ecn : h.2.2.2.2 pic 7 = .int (zi cn)) (rcn : 0 ≤ cn ∧ cn ≤ 3) (uc : Int) (euc : h.2.2.2.2 pic 12 = .int (zi uc)) (ruc : 0 ≤ uc ∧ uc ≤ 8) (ur : Int) (eur : h.2.2.2.2 pic 13 = .int (zi ur)) (rur : 0 ≤ ur ∧ ur ≤ 8) (bl : Int) (ebl : h.2.2.2.2 pic 8 = .int (zi bl)) (rbl : 0 ≤ bl ∧ bl ≤ 192) (hb0 : Int) (ehb0 : h.2.2.2.2 b0 1 = .int (zi hb0)) (rhb0 : (-1) ≤ hb0 ∧ hb0 ≤ 15) (vb0 : Int) (evb0 : h.2.2.2.2 b0 2 = .int (zi vb0)) (rvb0 : 0 ≤ vb0 ∧ vb0 ≤ 15) (C0 : Int) (eC0 : h.2.2.2.2 b0 4 = .int (zi C0)) (rC0 : 0 ≤ C0 ∧ C0 ≤ 16) (R0 : Int) (eR0 : h.2.2.2.2 b0 5 = .int (zi R0)) (rR0 : 0 ≤ R0 ∧ R0 ≤ 16) (oc0 : Int) (eoc0 : h.2.2.2.2 b0 6 = .int (zi oc0)) (roc0 : 0 ≤ oc0 ∧ oc0 ≤ 16) (or0 : Int) (eor0 : h.2.2.2.2 b0 7 = .int (zi or0)) (ror0 : 0 ≤ or0 ∧ or0 ≤ 16) (f0 : Int) (ef0 : h.2.2.2.2 b0 8 = .int (zi f0)) (rf0 : 0 ≤ f0 ∧ f0 ≤ 192) (hb1 : Int) (ehb1 : h.2.2.2.2 b1 1 = .int (zi hb1)) (rhb1 : (-1) ≤ hb1 ∧ hb1 ≤ 15) (vb1 : Int) (evb1 : h.2.2.2.2 b1 2 = .int (zi vb1)) (rvb1 : 0 ≤ vb1 ∧ vb1 ≤ 15) (C1 : Int) (eC1 : h.2.2.2.2 b1 4 = .int (zi C1)) (rC1 : 0 ≤ C1 ∧ C1 ≤ 16) (R1 : Int) (eR1 : h.2.2.2.2 b1 5 = .int (zi R1)) (rR1 : 0 ≤ R1 ∧ R1 ≤ 16) (oc1 : Int) (eoc1 : h.2.2.2.2 b1 6 = .int (zi oc1)) (roc1 : 0 ≤ oc1 ∧ oc1 ≤ 16) (or1 : Int) (eor1 : h.2.2.2.2 b1 7 = .int (zi or1)) (ror1 : 0 ≤ or1 ∧ or1 ≤ 16) (f1 : Int) (ef1 : h.2.2.2.2 b1 8 = .int (zi f1)) (rf1 : 0 ≤ f1 ∧ f1 ≤ 192) (hb2 : Int) (ehb2 : h.2.2.2.2 b2 1 = .int (zi hb2)) (rhb2 : (-1) ≤ hb2 ∧ hb2 ≤ 15) (vb2 : Int) (evb2 : h.2.2.2.2 b2 2 = .int (zi vb2)) (rvb2 : 0 ≤ vb2 ∧ vb2 ≤ 15) (C2 : Int) (eC2 : h.2.2.2.2 b2 4 = .int (zi C2)) (rC2 : 0 ≤ C2 ∧ C2 ≤ 16) (R2 : Int) (eR2 : h.2.2.2.2 b2 5 = .int (zi R2)) (rR2 : 0 ≤ R2 ∧ R2 ≤ 16) (oc2 : Int) (eoc2 : h.2.2.2.2 b2 6 = .int (zi oc2)) (roc2 : 0 ≤ oc2 ∧ oc2 ≤ 16) (or2 : Int) (eor2 : h.2.2.2.2 b2 7 = .int (zi or2)) (ror2 : 0 ≤ or2 ∧ or2 ≤ 16) (f2 : Int) (ef2 : h.2.2.2.2 b2 8 = .int (zi f2)) (rf2 : 0 ≤ f2 ∧ f2 ≤ 192) (sg : Int) (esg : h.2.2.2.2 x 11 = .int (zi sg)) (rsg : 0 ≤ sg ∧ sg ≤ 1) (sb : Int) (esb : h.2.2.2.2 x 12 = .int (zi sb)) (rsb : 0 ≤ sb ∧ sb ≤ 2) (pp0 : 1 ≤ cn) (pp1 : sg = 1 → sb < cn) (pp2 : 0 ≤ tt) (pp3 : bl * 64 ≤ (h.2.2.2.1 co : Int)) (pp4 : bl ≤ (h.2.2.2.1 dm : Int)) (uq : gUq ty) (hypq0 : 0 < cn → gPq uc ur hb0 vb0 C0 R0 oc0 or0 f0 bl) (hypq1 : 1 < cn → gPq uc ur hb1 vb1 C1 R1 oc1 or1 f1 bl) (hypq2 : 2 < cn → gPq uc ur hb2 vb2 C2 R2 oc2 or2 f2 bl) : gz gPP gGG gcn (d + 6) gt40 0 (gent [.ref x, .int (zi p)] 5) [] h (fun q _ => gSs rT 1027 ty [66010, 66013, 66014, 67001, 67002, 67003, 69999, 70999, 82011, 83011, 84011, 112999, 113999] h q.2.2 ∧ ∃ p1 : Int, gfin gt40 q.1 q.2.1 = some none ∧ q.2.2.2.2.2.2 bi 1 = .int (zi p1) ∧ 0 ≤ p1 ∧ p1 ≤ 2002 ∧ (p ≤ p1)) := by
  have hS : gSs rT 1027 ty [66010, 66013, 66014, 67001, 67002, 67003, 69999, 70999, 82011, 83011, 84011, 112999, 113999] h h := gSs.rf hJ
  refine gz_s 1 (pc' := 1) (L' := [some (.ref x), some (.int (zi p)), none, none, none]) (S' := [.ref x]) rfl ?_
  refine gs_gtk rfl (by decide) rfl hS.1 tx rfl rfl ebi ?_
  refine gz_s 1 (pc' := 5) (L' := [some (.ref x), some (.int (zi p)), none, none, none]) (S' := [.int (zi p), .ref bi]) rfl ?_
  refine gz_call rfl (by decide) rfl (by decide) (by decide) (gcal_of rfl rfl rfl (Nat.le_of_ble_eq_true rfl) (gJ.recv (G := gGG) hS.1 tbi rfl rfl)) (cl_Bits_beginAt _ hS.1 bi tbi p (by omega) uq) (fun q1 _ wq1 => ?_)
  obtain ⟨pq1, oq1, hq1⟩ := q1
  obtain ⟨xq1, fq1_0, gq1, efq1_0, afq1_0, bfq1_0, uq1_0, uq1_1⟩ := wq1
  refine ⟨_, gq1, ?_⟩
  show gz gPP gGG gcn _ _ 8 [some (.ref x), some (.int (zi p)), none, none, none] [] hq1 _
  have sq1 : gSs rT 1027 ty [66010, 66013, 66014, 67001, 67002, 67003, 69999, 70999, 82011, 83011, 84011, 112999, 113999] h hq1 := gSs.tr hS xq1 (by decide)
  have s2 := (xq1.2.2.2.2.2 x 0 (by rw [tx]; decide)).trans ebi
  have s3 := (xq1.2.2.2.2.2 bi 0 (by rw [tbi]; decide)).trans esrc
  have s4 := (xq1.2.2.2.2.2 x 7 (by rw [tx]; decide)).trans epic
  have s5 := (xq1.2.2.2.2.2 pic 2 (by rw [tpic]; decide)).trans eco
  have s6 := (xq1.2.2.2.2.2 pic 0 (by rw [tpic]; decide)).trans ebn
  have s7 := (xq1.2.2.2.2.2 bn 0 (by rw [tbn]; decide)).trans eb0
  have s8 := (xq1.2.2.2.2.2 bn 1 (by rw [tbn]; decide)).trans eb1
  have s9 := (xq1.2.2.2.2.2 bn 2 (by rw [tbn]; decide)).trans eb2
  have s10 := (xq1.2.2.2.2.2 pic 3 (by rw [tpic]; decide)).trans edm
  have s11 := (xq1.2.2.2.2.2 src 1 (by rw [tsrc]; decide)).trans esz
  have s12 := (xq1.2.2.2.2.2 x 3 (by rw [tx]; decide)).trans ett
  have s13 := (xq1.2.2.2.2.2 x 2 (by rw [tx]; decide)).trans efr
  have s14 := (xq1.2.2.2.2.2 pic 7 (by rw [tpic]; decide)).trans ecn
  have s15 := (xq1.2.2.2.2.2 pic 12 (by rw [tpic]; decide)).trans euc
  have s16 := (xq1.2.2.2.2.2 pic 13 (by rw [tpic]; decide)).trans eur
  have s17 := (xq1.2.2.2.2.2 pic 8 (by rw [tpic]; decide)).trans ebl
  have s18 := (xq1.2.2.2.2.2 b0 1 (by rw [tb0]; decide)).trans ehb0
  have s19 := (xq1.2.2.2.2.2 b0 2 (by rw [tb0]; decide)).trans evb0
  have s20 := (xq1.2.2.2.2.2 b0 4 (by rw [tb0]; decide)).trans eC0
  have s21 := (xq1.2.2.2.2.2 b0 5 (by rw [tb0]; decide)).trans eR0
  have s22 := (xq1.2.2.2.2.2 b0 6 (by rw [tb0]; decide)).trans eoc0
  have s23 := (xq1.2.2.2.2.2 b0 7 (by rw [tb0]; decide)).trans eor0
  have s24 := (xq1.2.2.2.2.2 b0 8 (by rw [tb0]; decide)).trans ef0
  have s25 := (xq1.2.2.2.2.2 b1 1 (by rw [tb1]; decide)).trans ehb1
  have s26 := (xq1.2.2.2.2.2 b1 2 (by rw [tb1]; decide)).trans evb1
  have s27 := (xq1.2.2.2.2.2 b1 4 (by rw [tb1]; decide)).trans eC1
  have s28 := (xq1.2.2.2.2.2 b1 5 (by rw [tb1]; decide)).trans eR1
  have s29 := (xq1.2.2.2.2.2 b1 6 (by rw [tb1]; decide)).trans eoc1
  have s30 := (xq1.2.2.2.2.2 b1 7 (by rw [tb1]; decide)).trans eor1
  have s31 := (xq1.2.2.2.2.2 b1 8 (by rw [tb1]; decide)).trans ef1
  have s32 := (xq1.2.2.2.2.2 b2 1 (by rw [tb2]; decide)).trans ehb2
  have s33 := (xq1.2.2.2.2.2 b2 2 (by rw [tb2]; decide)).trans evb2
  have s34 := (xq1.2.2.2.2.2 b2 4 (by rw [tb2]; decide)).trans eC2
  have s35 := (xq1.2.2.2.2.2 b2 5 (by rw [tb2]; decide)).trans eR2
  have s36 := (xq1.2.2.2.2.2 b2 6 (by rw [tb2]; decide)).trans eoc2
  have s37 := (xq1.2.2.2.2.2 b2 7 (by rw [tb2]; decide)).trans eor2
  have s38 := (xq1.2.2.2.2.2 b2 8 (by rw [tb2]; decide)).trans ef2
  have s39 := (xq1.2.2.2.2.2 x 11 (by rw [tx]; decide)).trans esg
  have s40 := (xq1.2.2.2.2.2 x 12 (by rw [tx]; decide)).trans esb
  refine gz_s 2 (pc' := 10) (L' := [some (.ref x), some (.int (zi p)), none, none, none]) (S' := [.int (zi 0), .ref x]) rfl ?_
  refine gs_put rfl (by decide) rfl sq1 tx rfl rfl rfl rfl (Or.inl rfl) (by decide) (by omega) (by omega) (fun h41 sh41 eh41 fh41 => ?_)
  have s42 := (fh41 x 0 (fun q => absurd q.2 (by decide))).trans s2
  have s43 := (fh41 bi 0 (fun q => absurd q.2 (by decide))).trans s3
  have s44 := (fh41 x 7 (fun q => absurd q.2 (by decide))).trans s4
  have s45 := (fh41 pic 2 (fun q => absurd q.2 (by decide))).trans s5
  have s46 := (fh41 pic 0 (fun q => absurd q.2 (by decide))).trans s6
  have s47 := (fh41 bn 0 (fun q => absurd (((tbn).symm.trans (congrArg ty q.1)).trans tx) (by decide))).trans s7
  have s48 := (fh41 bn 1 (fun q => absurd (((tbn).symm.trans (congrArg ty q.1)).trans tx) (by decide))).trans s8
  have s49 := (fh41 bn 2 (fun q => absurd (((tbn).symm.trans (congrArg ty q.1)).trans tx) (by decide))).trans s9
  have s50 := (fh41 pic 3 (fun q => absurd q.2 (by decide))).trans s10
  have s51 := (fh41 src 1 (fun q => absurd q.2 (by decide))).trans s11
  have s52 := (fh41 x 3 (fun q => absurd q.2 (by decide))).trans s12
  have s53 := (fh41 x 2 (fun q => absurd q.2 (by decide))).trans s13
  have s54 := (fh41 pic 7 (fun q => absurd q.2 (by decide))).trans s14
  have s55 := (fh41 pic 12 (fun q => absurd q.2 (by decide))).trans s15
  have s56 := (fh41 pic 13 (fun q => absurd (((tpic).symm.trans (congrArg ty q.1)).trans tx) (by decide))).trans s16
  have s57 := (fh41 pic 8 (fun q => absurd q.2 (by decide))).trans s17
  have s58 := (fh41 b0 1 (fun q => absurd q.2 (by decide))).trans s18
  have s59 := (fh41 b0 2 (fun q => absurd q.2 (by decide))).trans s19
  have s60 := (fh41 b0 4 (fun q => absurd q.2 (by decide))).trans s20
  have s61 := (fh41 b0 5 (fun q => absurd q.2 (by decide))).trans s21
  have s62 := (fh41 b0 6 (fun q => absurd q.2 (by decide))).trans s22
  have s63 := (fh41 b0 7 (fun q => absurd q.2 (by decide))).trans s23
  have s64 := (fh41 b0 8 (fun q => absurd q.2 (by decide))).trans s24
  have s65 := (fh41 b1 1 (fun q => absurd q.2 (by decide))).trans s25
  have s66 := (fh41 b1 2 (fun q => absurd q.2 (by decide))).trans s26
  have s67 := (fh41 b1 4 (fun q => absurd q.2 (by decide))).trans s27
  have s68 := (fh41 b1 5 (fun q => absurd q.2 (by decide))).trans s28
  have s69 := (fh41 b1 6 (fun q => absurd q.2 (by decide))).trans s29
  have s70 := (fh41 b1 7 (fun q => absurd q.2 (by decide))).trans s30
  have s71 := (fh41 b1 8 (fun q => absurd q.2 (by decide))).trans s31
  have s72 := (fh41 b2 1 (fun q => absurd q.2 (by decide))).trans s32
  have s73 := (fh41 b2 2 (fun q => absurd q.2 (by decide))).trans s33
  have s74 := (fh41 b2 4 (fun q => absurd q.2 (by decide))).trans s34
  have s75 := (fh41 b2 5 (fun q => absurd q.2 (by decide))).trans s35
  have s76 := (fh41 b2 6 (fun q => absurd q.2 (by decide))).trans s36
  have s77 := (fh41 b2 7 (fun q => absurd q.2 (by decide))).trans s37
  have s78 := (fh41 b2 8 (fun q => absurd q.2 (by decide))).trans s38
  have s79 := (fh41 x 11 (fun q => absurd q.2 (by decide))).trans s39
  have s80 := (fh41 x 12 (fun q => absurd q.2 (by decide))).trans s40
  have s81 := (fh41 bi 1 (fun q => absurd q.2 (by decide))).trans efq1_0
  refine gz_s 1 (pc' := 14) (L' := [some (.ref x), some (.int (zi p)), none, none, none]) (S' := [.ref x]) rfl ?_
  refine gz_call rfl (by decide) rfl (by decide) (by decide) (gcal_of rfl rfl rfl (Nat.le_of_ble_eq_true rfl) (gJ.recv (G := gGG) sh41.1 tx rfl rfl)) (cl_ScanReader_beginInterval _ sh41.1 x tx pic s44 tpic uq) (fun q82 _ wq82 => ?_)
  obtain ⟨pq82, oq82, hq82⟩ := q82
  obtain ⟨xq82, gq82⟩ := wq82
  refine ⟨_, gq82, ?_⟩
  show gz gPP gGG gcn _ _ 17 [some (.ref x), some (.int (zi p)), none, none, none] [] hq82 _
  have sq82 : gSs rT 1027 ty [66010, 66013, 66014, 67001, 67002, 67003, 69999, 70999, 82011, 83011, 84011, 112999, 113999] h hq82 := gSs.tr sh41 xq82 (by decide)
  have s83 := (xq82.2.2.2.2.2 x 0 (by rw [tx]; decide)).trans s42
  have s84 := (xq82.2.2.2.2.2 bi 0 (by rw [tbi]; decide)).trans s43
  have s85 := (xq82.2.2.2.2.2 x 7 (by rw [tx]; decide)).trans s44
  have s86 := (xq82.2.2.2.2.2 pic 2 (by rw [tpic]; decide)).trans s45
  have s87 := (xq82.2.2.2.2.2 pic 0 (by rw [tpic]; decide)).trans s46
  have s88 := (xq82.2.2.2.2.2 bn 0 (by rw [tbn]; decide)).trans s47
  have s89 := (xq82.2.2.2.2.2 bn 1 (by rw [tbn]; decide)).trans s48
  have s90 := (xq82.2.2.2.2.2 bn 2 (by rw [tbn]; decide)).trans s49
  have s91 := (xq82.2.2.2.2.2 pic 3 (by rw [tpic]; decide)).trans s50
  have s92 := (xq82.2.2.2.2.2 src 1 (by rw [tsrc]; decide)).trans s51
  have s93 := (xq82.2.2.2.2.2 x 3 (by rw [tx]; decide)).trans s52
  have s94 := (xq82.2.2.2.2.2 x 2 (by rw [tx]; decide)).trans s53
  have s95 := (xq82.2.2.2.2.2 pic 7 (by rw [tpic]; decide)).trans s54
  have s96 := (xq82.2.2.2.2.2 pic 12 (by rw [tpic]; decide)).trans s55
  have s97 := (xq82.2.2.2.2.2 pic 13 (by rw [tpic]; decide)).trans s56
  have s98 := (xq82.2.2.2.2.2 pic 8 (by rw [tpic]; decide)).trans s57
  have s99 := (xq82.2.2.2.2.2 b0 1 (by rw [tb0]; decide)).trans s58
  have s100 := (xq82.2.2.2.2.2 b0 2 (by rw [tb0]; decide)).trans s59
  have s101 := (xq82.2.2.2.2.2 b0 4 (by rw [tb0]; decide)).trans s60
  have s102 := (xq82.2.2.2.2.2 b0 5 (by rw [tb0]; decide)).trans s61
  have s103 := (xq82.2.2.2.2.2 b0 6 (by rw [tb0]; decide)).trans s62
  have s104 := (xq82.2.2.2.2.2 b0 7 (by rw [tb0]; decide)).trans s63
  have s105 := (xq82.2.2.2.2.2 b0 8 (by rw [tb0]; decide)).trans s64
  have s106 := (xq82.2.2.2.2.2 b1 1 (by rw [tb1]; decide)).trans s65
  have s107 := (xq82.2.2.2.2.2 b1 2 (by rw [tb1]; decide)).trans s66
  have s108 := (xq82.2.2.2.2.2 b1 4 (by rw [tb1]; decide)).trans s67
  have s109 := (xq82.2.2.2.2.2 b1 5 (by rw [tb1]; decide)).trans s68
  have s110 := (xq82.2.2.2.2.2 b1 6 (by rw [tb1]; decide)).trans s69
  have s111 := (xq82.2.2.2.2.2 b1 7 (by rw [tb1]; decide)).trans s70
  have s112 := (xq82.2.2.2.2.2 b1 8 (by rw [tb1]; decide)).trans s71
  have s113 := (xq82.2.2.2.2.2 b2 1 (by rw [tb2]; decide)).trans s72
  have s114 := (xq82.2.2.2.2.2 b2 2 (by rw [tb2]; decide)).trans s73
  have s115 := (xq82.2.2.2.2.2 b2 4 (by rw [tb2]; decide)).trans s74
  have s116 := (xq82.2.2.2.2.2 b2 5 (by rw [tb2]; decide)).trans s75
  have s117 := (xq82.2.2.2.2.2 b2 6 (by rw [tb2]; decide)).trans s76
  have s118 := (xq82.2.2.2.2.2 b2 7 (by rw [tb2]; decide)).trans s77
  have s119 := (xq82.2.2.2.2.2 b2 8 (by rw [tb2]; decide)).trans s78
  have s120 := (xq82.2.2.2.2.2 x 11 (by rw [tx]; decide)).trans s79
  have s121 := (xq82.2.2.2.2.2 x 12 (by rw [tx]; decide)).trans s80
  have s122 := (xq82.2.2.2.2.2 bi 1 (by rw [tbi]; decide)).trans s81
  have s123 := (xq82.2.2.2.2.2 x 13 (by rw [tx]; decide)).trans eh41
  refine gz_s 1 (pc' := 18) (L' := [some (.ref x), some (.int (zi p)), none, none, none]) (S' := [.ref x]) rfl ?_
  refine gz_call rfl (by decide) rfl (by decide) (by decide) (gcal_of rfl rfl rfl (Nat.le_of_ble_eq_true rfl) (gJ.recv (G := gGG) sq82.1 tx rfl rfl)) (cl_ScanReader_countUnits _ sq82.1 x tx pic s85 tpic bn s87 tbn b0 s88 tb0 b1 s89 tb1 b2 s90 tb2 cn s95 (by omega) uc s96 (by omega) ur s97 (by omega) bl s98 (by omega) hb0 s99 (by omega) vb0 s100 (by omega) C0 s101 (by omega) R0 s102 (by omega) oc0 s103 (by omega) or0 s104 (by omega) f0 s105 (by omega) hb1 s106 (by omega) vb1 s107 (by omega) C1 s108 (by omega) R1 s109 (by omega) oc1 s110 (by omega) or1 s111 (by omega) f1 s112 (by omega) hb2 s113 (by omega) vb2 s114 (by omega) C2 s115 (by omega) R2 s116 (by omega) oc2 s117 (by omega) or2 s118 (by omega) f2 s119 (by omega) sg s120 (by omega) sb s121 (by omega) (by omega) (by omega) uq hypq0 hypq1 hypq2) (fun q124 _ wq124 => ?_)
  obtain ⟨pq124, oq124, hq124⟩ := q124
  obtain ⟨xq124, zq124, gq124, aq124, bq124, uq124_0, uq124_1, uq124_2, uq124_3⟩ := wq124
  refine ⟨_, gq124, ?_⟩
  show gz gPP gGG gcn _ _ 21 [some (.ref x), some (.int (zi p)), none, none, none] [.int (zi zq124)] hq124 _
  have sq124 : gSs rT 1027 ty [66010, 66013, 66014, 67001, 67002, 67003, 69999, 70999, 82011, 83011, 84011, 112999, 113999] h hq124 := gSs.tr sq82 xq124 (by decide)
  have s125 := (xq124.2.2.2.2.2 x 0 (by rw [tx]; decide)).trans s83
  have s126 := (xq124.2.2.2.2.2 bi 0 (by rw [tbi]; decide)).trans s84
  have s127 := (xq124.2.2.2.2.2 x 7 (by rw [tx]; decide)).trans s85
  have s128 := (xq124.2.2.2.2.2 pic 2 (by rw [tpic]; decide)).trans s86
  have s129 := (xq124.2.2.2.2.2 pic 0 (by rw [tpic]; decide)).trans s87
  have s130 := (xq124.2.2.2.2.2 bn 0 (by rw [tbn]; decide)).trans s88
  have s131 := (xq124.2.2.2.2.2 bn 1 (by rw [tbn]; decide)).trans s89
  have s132 := (xq124.2.2.2.2.2 bn 2 (by rw [tbn]; decide)).trans s90
  have s133 := (xq124.2.2.2.2.2 pic 3 (by rw [tpic]; decide)).trans s91
  have s134 := (xq124.2.2.2.2.2 src 1 (by rw [tsrc]; decide)).trans s92
  have s135 := (xq124.2.2.2.2.2 x 3 (by rw [tx]; decide)).trans s93
  have s136 := (xq124.2.2.2.2.2 x 2 (by rw [tx]; decide)).trans s94
  have s137 := (xq124.2.2.2.2.2 pic 7 (by rw [tpic]; decide)).trans s95
  have s138 := (xq124.2.2.2.2.2 pic 12 (by rw [tpic]; decide)).trans s96
  have s139 := (xq124.2.2.2.2.2 pic 13 (by rw [tpic]; decide)).trans s97
  have s140 := (xq124.2.2.2.2.2 pic 8 (by rw [tpic]; decide)).trans s98
  have s141 := (xq124.2.2.2.2.2 b0 1 (by rw [tb0]; decide)).trans s99
  have s142 := (xq124.2.2.2.2.2 b0 2 (by rw [tb0]; decide)).trans s100
  have s143 := (xq124.2.2.2.2.2 b0 4 (by rw [tb0]; decide)).trans s101
  have s144 := (xq124.2.2.2.2.2 b0 5 (by rw [tb0]; decide)).trans s102
  have s145 := (xq124.2.2.2.2.2 b0 6 (by rw [tb0]; decide)).trans s103
  have s146 := (xq124.2.2.2.2.2 b0 7 (by rw [tb0]; decide)).trans s104
  have s147 := (xq124.2.2.2.2.2 b0 8 (by rw [tb0]; decide)).trans s105
  have s148 := (xq124.2.2.2.2.2 b1 1 (by rw [tb1]; decide)).trans s106
  have s149 := (xq124.2.2.2.2.2 b1 2 (by rw [tb1]; decide)).trans s107
  have s150 := (xq124.2.2.2.2.2 b1 4 (by rw [tb1]; decide)).trans s108
  have s151 := (xq124.2.2.2.2.2 b1 5 (by rw [tb1]; decide)).trans s109
  have s152 := (xq124.2.2.2.2.2 b1 6 (by rw [tb1]; decide)).trans s110
  have s153 := (xq124.2.2.2.2.2 b1 7 (by rw [tb1]; decide)).trans s111
  have s154 := (xq124.2.2.2.2.2 b1 8 (by rw [tb1]; decide)).trans s112
  have s155 := (xq124.2.2.2.2.2 b2 1 (by rw [tb2]; decide)).trans s113
  have s156 := (xq124.2.2.2.2.2 b2 2 (by rw [tb2]; decide)).trans s114
  have s157 := (xq124.2.2.2.2.2 b2 4 (by rw [tb2]; decide)).trans s115
  have s158 := (xq124.2.2.2.2.2 b2 5 (by rw [tb2]; decide)).trans s116
  have s159 := (xq124.2.2.2.2.2 b2 6 (by rw [tb2]; decide)).trans s117
  have s160 := (xq124.2.2.2.2.2 b2 7 (by rw [tb2]; decide)).trans s118
  have s161 := (xq124.2.2.2.2.2 b2 8 (by rw [tb2]; decide)).trans s119
  have s162 := (xq124.2.2.2.2.2 x 11 (by rw [tx]; decide)).trans s120
  have s163 := (xq124.2.2.2.2.2 x 12 (by rw [tx]; decide)).trans s121
  have s164 := (xq124.2.2.2.2.2 bi 1 (by rw [tbi]; decide)).trans s122
  have s165 := (xq124.2.2.2.2.2 x 13 (by rw [tx]; decide)).trans s123
  refine gz_s 5 (pc' := 27) (L' := [some (.ref x), some (.int (zi p)), some (.int (zi zq124)), some (.int (zi 0)), some (.int (zi 0))]) (S' := []) rfl ?_
  obtain ⟨z166, ez166, az166, bz166⟩ := gJ.int (k := 3) (G := gGG) sq124.1 tbi rfl rfl rfl
  have lp167 : ∀ (fu : Nat) (h168 : gH) (u : Int) (tn : Int) (pv : Int) (lv : Int), (65 - tn).toNat < fu → gSs rT 1027 ty [66010, 66013, 66014, 67001, 67002, 67003, 69999, 70999, 82011, 83011, 84011, 112999, 113999] h h168 → (0 ≤ u ∧ u ≤ 64) → (0 ≤ tn ∧ tn ≤ 64) → (0 ≤ pv ∧ pv ≤ 2002) → (0 ≤ lv ∧ lv ≤ 8) → (p ≤ pv) → h168.2.2.2.2 x 0 = .ref bi → h168.2.2.2.2 bi 0 = .ref src → h168.2.2.2.2 x 7 = .ref pic → h168.2.2.2.2 pic 2 = .ref co → h168.2.2.2.2 pic 0 = .ref bn → h168.2.2.2.2 bn 0 = .ref b0 → h168.2.2.2.2 bn 1 = .ref b1 → h168.2.2.2.2 bn 2 = .ref b2 → h168.2.2.2.2 pic 3 = .ref dm → h168.2.2.2.2 src 1 = .int (zi sz) → h168.2.2.2.2 x 3 = .int (zi tt) → h168.2.2.2.2 x 2 = .int (zi fr) → h168.2.2.2.2 pic 7 = .int (zi cn) → h168.2.2.2.2 pic 12 = .int (zi uc) → h168.2.2.2.2 pic 13 = .int (zi ur) → h168.2.2.2.2 pic 8 = .int (zi bl) → h168.2.2.2.2 b0 1 = .int (zi hb0) → h168.2.2.2.2 b0 2 = .int (zi vb0) → h168.2.2.2.2 b0 4 = .int (zi C0) → h168.2.2.2.2 b0 5 = .int (zi R0) → h168.2.2.2.2 b0 6 = .int (zi oc0) → h168.2.2.2.2 b0 7 = .int (zi or0) → h168.2.2.2.2 b0 8 = .int (zi f0) → h168.2.2.2.2 b1 1 = .int (zi hb1) → h168.2.2.2.2 b1 2 = .int (zi vb1) → h168.2.2.2.2 b1 4 = .int (zi C1) → h168.2.2.2.2 b1 5 = .int (zi R1) → h168.2.2.2.2 b1 6 = .int (zi oc1) → h168.2.2.2.2 b1 7 = .int (zi or1) → h168.2.2.2.2 b1 8 = .int (zi f1) → h168.2.2.2.2 b2 1 = .int (zi hb2) → h168.2.2.2.2 b2 2 = .int (zi vb2) → h168.2.2.2.2 b2 4 = .int (zi C2) → h168.2.2.2.2 b2 5 = .int (zi R2) → h168.2.2.2.2 b2 6 = .int (zi oc2) → h168.2.2.2.2 b2 7 = .int (zi or2) → h168.2.2.2.2 b2 8 = .int (zi f2) → h168.2.2.2.2 x 11 = .int (zi sg) → h168.2.2.2.2 x 12 = .int (zi sb) → h168.2.2.2.2 bi 1 = .int (zi pv) → h168.2.2.2.2 bi 3 = .int (zi lv) → (0 < cn → gPq uc ur hb0 vb0 C0 R0 oc0 or0 f0 bl) → (1 < cn → gPq uc ur hb1 vb1 C1 R1 oc1 or1 f1 bl) → (2 < cn → gPq uc ur hb2 vb2 C2 R2 oc2 or2 f2 bl) → gz gPP gGG gcn (d + 6) gt40 27 [some (.ref x), some (.int (zi p)), some (.int (zi zq124)), some (.int (zi u)), some (.int (zi tn))] [] h168 (fun q _ => gSs rT 1027 ty [66010, 66013, 66014, 67001, 67002, 67003, 69999, 70999, 82011, 83011, 84011, 112999, 113999] h q.2.2 ∧ ∃ p1 : Int, gfin gt40 q.1 q.2.1 = some none ∧ q.2.2.2.2.2.2 bi 1 = .int (zi p1) ∧ 0 ≤ p1 ∧ p1 ≤ 2002 ∧ (p ≤ p1)) := by
    intro fu
    induction fu with
    | zero => intro h168 u tn pv lv hm; exact absurd hm (Nat.not_lt_zero _)
    | succ fu ihlp167 =>
      intro h168 u tn pv lv lp167m sh168 lp167f0 lp167f1 lp167f2 lp167f3 lp167f4 lp167k0 lp167k1 lp167k2 lp167k3 lp167k4 lp167k5 lp167k6 lp167k7 lp167k8 lp167k9 lp167k10 lp167k11 lp167k12 lp167k13 lp167k14 lp167k15 lp167k16 lp167k17 lp167k18 lp167k19 lp167k20 lp167k21 lp167k22 lp167k23 lp167k24 lp167k25 lp167k26 lp167k27 lp167k28 lp167k29 lp167k30 lp167k31 lp167k32 lp167k33 lp167k34 lp167k35 lp167k36 lp167k37 lp167k38 lp167k39 lp167k40 lp167k41 lp167k42 lp167k43
      refine gz_s 2 (pc' := 30) (L' := [some (.ref x), some (.int (zi p)), some (.int (zi zq124)), some (.int (zi u)), some (.int (zi tn))]) (S' := [.int (zi zq124), .int (zi tn)]) rfl ?_
      by_cases hc169 : (zq124 : Int) ≤ tn
      · refine gy_icT (pc' := 73) rfl (by decide) (by decide) (by omega) (by omega) hc169 ?_
        exact gz_end (I := .return_) (len := 1) rfl (Or.inl rfl) ⟨sh168, pv, rfl, lp167k39, (by omega), (by omega), (by omega)⟩
      · refine gy_icF rfl (by decide) (by decide) (by omega) (by omega) hc169 ?_
        refine gz_s 2 (pc' := 35) (L' := [some (.ref x), some (.int (zi p)), some (.int (zi zq124)), some (.int (zi u)), some (.int (zi tn))]) (S' := [.int (zi zq124), .int (zi u)]) rfl ?_
        by_cases hc170 : (zq124 : Int) ≤ u
        · refine gy_icT (pc' := 73) rfl (by decide) (by decide) (by omega) (by omega) hc170 ?_
          exact gz_end (I := .return_) (len := 1) rfl (Or.inl rfl) ⟨sh168, pv, rfl, lp167k39, (by omega), (by omega), (by omega)⟩
        · refine gy_icF rfl (by decide) (by decide) (by omega) (by omega) hc170 ?_
          refine gz_s 2 (pc' := 40) (L' := [some (.ref x), some (.int (zi p)), some (.int (zi zq124)), some (.int (zi u)), some (.int (zi tn))]) (S' := [.int (zi u), .ref x]) rfl ?_
          refine gz_call rfl (by decide) rfl (by decide) (by decide) (gcal_of rfl rfl rfl (Nat.le_of_ble_eq_true rfl) (gJ.recv (G := gGG) sh168.1 tx rfl rfl)) (cl_ScanReader_isMarkerGood _ sh168.1 x tx u (by omega) bi lp167k0 tbi src lp167k1 tsrc pic lp167k2 tpic sz lp167k9 (by omega) pv lp167k39 (by omega) uq) (fun q171 _ wq171 => ?_)
          obtain ⟨pq171, oq171, hq171⟩ := q171
          obtain ⟨xq171, zq171, fq171_0, gq171, aq171, bq171, efq171_0, afq171_0, bfq171_0, uq171_0⟩ := wq171
          refine ⟨_, gq171, ?_⟩
          show gz gPP gGG gcn _ _ 43 [some (.ref x), some (.int (zi p)), some (.int (zi zq124)), some (.int (zi u)), some (.int (zi tn))] [.int (zi zq171)] hq171 _
          have sq171 : gSs rT 1027 ty [66010, 66013, 66014, 67001, 67002, 67003, 69999, 70999, 82011, 83011, 84011, 112999, 113999] h hq171 := gSs.tr sh168 xq171 (by decide)
          have s172 := (xq171.2.2.2.2.2 x 0 (by rw [tx]; decide)).trans lp167k0
          have s173 := (xq171.2.2.2.2.2 bi 0 (by rw [tbi]; decide)).trans lp167k1
          have s174 := (xq171.2.2.2.2.2 x 7 (by rw [tx]; decide)).trans lp167k2
          have s175 := (xq171.2.2.2.2.2 pic 2 (by rw [tpic]; decide)).trans lp167k3
          have s176 := (xq171.2.2.2.2.2 pic 0 (by rw [tpic]; decide)).trans lp167k4
          have s177 := (xq171.2.2.2.2.2 bn 0 (by rw [tbn]; decide)).trans lp167k5
          have s178 := (xq171.2.2.2.2.2 bn 1 (by rw [tbn]; decide)).trans lp167k6
          have s179 := (xq171.2.2.2.2.2 bn 2 (by rw [tbn]; decide)).trans lp167k7
          have s180 := (xq171.2.2.2.2.2 pic 3 (by rw [tpic]; decide)).trans lp167k8
          have s181 := (xq171.2.2.2.2.2 src 1 (by rw [tsrc]; decide)).trans lp167k9
          have s182 := (xq171.2.2.2.2.2 x 3 (by rw [tx]; decide)).trans lp167k10
          have s183 := (xq171.2.2.2.2.2 x 2 (by rw [tx]; decide)).trans lp167k11
          have s184 := (xq171.2.2.2.2.2 pic 7 (by rw [tpic]; decide)).trans lp167k12
          have s185 := (xq171.2.2.2.2.2 pic 12 (by rw [tpic]; decide)).trans lp167k13
          have s186 := (xq171.2.2.2.2.2 pic 13 (by rw [tpic]; decide)).trans lp167k14
          have s187 := (xq171.2.2.2.2.2 pic 8 (by rw [tpic]; decide)).trans lp167k15
          have s188 := (xq171.2.2.2.2.2 b0 1 (by rw [tb0]; decide)).trans lp167k16
          have s189 := (xq171.2.2.2.2.2 b0 2 (by rw [tb0]; decide)).trans lp167k17
          have s190 := (xq171.2.2.2.2.2 b0 4 (by rw [tb0]; decide)).trans lp167k18
          have s191 := (xq171.2.2.2.2.2 b0 5 (by rw [tb0]; decide)).trans lp167k19
          have s192 := (xq171.2.2.2.2.2 b0 6 (by rw [tb0]; decide)).trans lp167k20
          have s193 := (xq171.2.2.2.2.2 b0 7 (by rw [tb0]; decide)).trans lp167k21
          have s194 := (xq171.2.2.2.2.2 b0 8 (by rw [tb0]; decide)).trans lp167k22
          have s195 := (xq171.2.2.2.2.2 b1 1 (by rw [tb1]; decide)).trans lp167k23
          have s196 := (xq171.2.2.2.2.2 b1 2 (by rw [tb1]; decide)).trans lp167k24
          have s197 := (xq171.2.2.2.2.2 b1 4 (by rw [tb1]; decide)).trans lp167k25
          have s198 := (xq171.2.2.2.2.2 b1 5 (by rw [tb1]; decide)).trans lp167k26
          have s199 := (xq171.2.2.2.2.2 b1 6 (by rw [tb1]; decide)).trans lp167k27
          have s200 := (xq171.2.2.2.2.2 b1 7 (by rw [tb1]; decide)).trans lp167k28
          have s201 := (xq171.2.2.2.2.2 b1 8 (by rw [tb1]; decide)).trans lp167k29
          have s202 := (xq171.2.2.2.2.2 b2 1 (by rw [tb2]; decide)).trans lp167k30
          have s203 := (xq171.2.2.2.2.2 b2 2 (by rw [tb2]; decide)).trans lp167k31
          have s204 := (xq171.2.2.2.2.2 b2 4 (by rw [tb2]; decide)).trans lp167k32
          have s205 := (xq171.2.2.2.2.2 b2 5 (by rw [tb2]; decide)).trans lp167k33
          have s206 := (xq171.2.2.2.2.2 b2 6 (by rw [tb2]; decide)).trans lp167k34
          have s207 := (xq171.2.2.2.2.2 b2 7 (by rw [tb2]; decide)).trans lp167k35
          have s208 := (xq171.2.2.2.2.2 b2 8 (by rw [tb2]; decide)).trans lp167k36
          have s209 := (xq171.2.2.2.2.2 x 11 (by rw [tx]; decide)).trans lp167k37
          have s210 := (xq171.2.2.2.2.2 x 12 (by rw [tx]; decide)).trans lp167k38
          by_cases hc211 : (zq171 : Int) = 0
          · refine gy_ifT (pc' := 60) rfl (by decide) (by decide) (by omega) hc211 ?_
            refine gz_s 3 (pc' := 63) (L' := [some (.ref x), some (.int (zi p)), some (.int (zi zq124)), some (.int (zi u)), some (.int (zi tn))]) (S' := [.int (zi zq124), .int (zi u), .ref x]) rfl ?_
            have hl212 : hq171.2.2.2.1 dm = h.2.2.2.1 dm := congrFun sq171.2.2.2.2.1 dm
            refine gz_call rfl (by decide) rfl (by decide) (by decide) (gcal_of rfl rfl rfl (Nat.le_of_ble_eq_true rfl) (gJ.recv (G := gGG) sq171.1 tx rfl rfl)) (cl_ScanReader_passDamaged _ sq171.1 x tx u (by omega) zq124 (by omega) bi s172 tbi src s173 tsrc pic s174 tpic bn s176 tbn b0 s177 tb0 b1 s178 tb1 b2 s179 tb2 dm s180 tdm sz s181 (by omega) fq171_0 efq171_0 (by omega) cn s184 (by omega) uc s185 (by omega) ur s186 (by omega) bl s187 (by omega) hb0 s188 (by omega) vb0 s189 (by omega) C0 s190 (by omega) R0 s191 (by omega) oc0 s192 (by omega) or0 s193 (by omega) f0 s194 (by omega) hb1 s195 (by omega) vb1 s196 (by omega) C1 s197 (by omega) R1 s198 (by omega) oc1 s199 (by omega) or1 s200 (by omega) f1 s201 (by omega) hb2 s202 (by omega) vb2 s203 (by omega) C2 s204 (by omega) R2 s205 (by omega) oc2 s206 (by omega) or2 s207 (by omega) f2 s208 (by omega) sg s209 (by omega) sb s210 (by omega) (by omega) (by omega) (by omega) (by omega) (by omega) (by omega) (by omega) uq lp167k41 lp167k42 lp167k43) (fun q213 _ wq213 => ?_)
            obtain ⟨pq213, oq213, hq213⟩ := q213
            obtain ⟨xq213, zq213, fq213_0, gq213, aq213, bq213, efq213_0, afq213_0, bfq213_0, uq213_0, uq213_1, uq213_2⟩ := wq213
            refine ⟨_, gq213, ?_⟩
            show gz gPP gGG gcn _ _ 66 [some (.ref x), some (.int (zi p)), some (.int (zi zq124)), some (.int (zi u)), some (.int (zi tn))] [.int (zi zq213)] hq213 _
            have sq213 : gSs rT 1027 ty [66010, 66013, 66014, 67001, 67002, 67003, 69999, 70999, 82011, 83011, 84011, 112999, 113999] h hq213 := gSs.tr sq171 xq213 (by decide)
            have s214 := (xq213.2.2.2.2.2 x 0 (by rw [tx]; decide)).trans s172
            have s215 := (xq213.2.2.2.2.2 bi 0 (by rw [tbi]; decide)).trans s173
            have s216 := (xq213.2.2.2.2.2 x 7 (by rw [tx]; decide)).trans s174
            have s217 := (xq213.2.2.2.2.2 pic 2 (by rw [tpic]; decide)).trans s175
            have s218 := (xq213.2.2.2.2.2 pic 0 (by rw [tpic]; decide)).trans s176
            have s219 := (xq213.2.2.2.2.2 bn 0 (by rw [tbn]; decide)).trans s177
            have s220 := (xq213.2.2.2.2.2 bn 1 (by rw [tbn]; decide)).trans s178
            have s221 := (xq213.2.2.2.2.2 bn 2 (by rw [tbn]; decide)).trans s179
            have s222 := (xq213.2.2.2.2.2 pic 3 (by rw [tpic]; decide)).trans s180
            have s223 := (xq213.2.2.2.2.2 src 1 (by rw [tsrc]; decide)).trans s181
            have s224 := (xq213.2.2.2.2.2 x 3 (by rw [tx]; decide)).trans s182
            have s225 := (xq213.2.2.2.2.2 x 2 (by rw [tx]; decide)).trans s183
            have s226 := (xq213.2.2.2.2.2 pic 7 (by rw [tpic]; decide)).trans s184
            have s227 := (xq213.2.2.2.2.2 pic 12 (by rw [tpic]; decide)).trans s185
            have s228 := (xq213.2.2.2.2.2 pic 13 (by rw [tpic]; decide)).trans s186
            have s229 := (xq213.2.2.2.2.2 pic 8 (by rw [tpic]; decide)).trans s187
            have s230 := (xq213.2.2.2.2.2 b0 1 (by rw [tb0]; decide)).trans s188
            have s231 := (xq213.2.2.2.2.2 b0 2 (by rw [tb0]; decide)).trans s189
            have s232 := (xq213.2.2.2.2.2 b0 4 (by rw [tb0]; decide)).trans s190
            have s233 := (xq213.2.2.2.2.2 b0 5 (by rw [tb0]; decide)).trans s191
            have s234 := (xq213.2.2.2.2.2 b0 6 (by rw [tb0]; decide)).trans s192
            have s235 := (xq213.2.2.2.2.2 b0 7 (by rw [tb0]; decide)).trans s193
            have s236 := (xq213.2.2.2.2.2 b0 8 (by rw [tb0]; decide)).trans s194
            have s237 := (xq213.2.2.2.2.2 b1 1 (by rw [tb1]; decide)).trans s195
            have s238 := (xq213.2.2.2.2.2 b1 2 (by rw [tb1]; decide)).trans s196
            have s239 := (xq213.2.2.2.2.2 b1 4 (by rw [tb1]; decide)).trans s197
            have s240 := (xq213.2.2.2.2.2 b1 5 (by rw [tb1]; decide)).trans s198
            have s241 := (xq213.2.2.2.2.2 b1 6 (by rw [tb1]; decide)).trans s199
            have s242 := (xq213.2.2.2.2.2 b1 7 (by rw [tb1]; decide)).trans s200
            have s243 := (xq213.2.2.2.2.2 b1 8 (by rw [tb1]; decide)).trans s201
            have s244 := (xq213.2.2.2.2.2 b2 1 (by rw [tb2]; decide)).trans s202
            have s245 := (xq213.2.2.2.2.2 b2 2 (by rw [tb2]; decide)).trans s203
            have s246 := (xq213.2.2.2.2.2 b2 4 (by rw [tb2]; decide)).trans s204
            have s247 := (xq213.2.2.2.2.2 b2 5 (by rw [tb2]; decide)).trans s205
            have s248 := (xq213.2.2.2.2.2 b2 6 (by rw [tb2]; decide)).trans s206
            have s249 := (xq213.2.2.2.2.2 b2 7 (by rw [tb2]; decide)).trans s207
            have s250 := (xq213.2.2.2.2.2 b2 8 (by rw [tb2]; decide)).trans s208
            have s251 := (xq213.2.2.2.2.2 x 11 (by rw [tx]; decide)).trans s209
            have s252 := (xq213.2.2.2.2.2 x 12 (by rw [tx]; decide)).trans s210
            refine gy_s 3 (pc' := 27) (L' := [some (.ref x), some (.int (zi p)), some (.int (zi zq124)), some (.int (zi zq213)), some (.int ((zi tn) + zi 1))]) (S' := []) (L2 := [some (.ref x), some (.int (zi p)), some (.int (zi zq124)), some (.int (zi zq213)), some (.int (zi (tn + 1)))]) (S2 := []) rfl (by simp only [zi_add, zi_sub, zi_mul, zi_neg, zi_and1, zi_and7, zi_and15, zi_and31, zi_and255]) (by simp only [zi_add, zi_sub, zi_mul, zi_neg, zi_and1, zi_and7, zi_and15, zi_and31, zi_and255]) ?_
            obtain ⟨z253, ez253, az253, bz253⟩ := gJ.int (k := 3) (G := gGG) sq213.1 tbi rfl rfl rfl
            exact gz_wk (ihlp167 hq213 zq213 (tn + 1) fq213_0 z253 (by omega) sq213 (by omega) (by omega) (by omega) (by omega) (by omega) s214 s215 s216 s217 s218 s219 s220 s221 s222 s223 s224 s225 s226 s227 s228 s229 s230 s231 s232 s233 s234 s235 s236 s237 s238 s239 s240 s241 s242 s243 s244 s245 s246 s247 s248 s249 s250 s251 s252 efq213_0 ez253 lp167k41 lp167k42 lp167k43) (gLw.s (gLw.s (gLw.s (gLw.s (gLw.s gLw.z)))))
          · refine gy_ifF rfl (by decide) (by decide) (by omega) hc211 ?_
            refine gz_s 2 (pc' := 48) (L' := [some (.ref x), some (.int (zi p)), some (.int (zi zq124)), some (.int (zi u)), some (.int (zi tn))]) (S' := [.int (zi u), .ref x]) rfl ?_
            have hl254 : hq171.2.2.2.1 co = h.2.2.2.1 co := congrFun sq171.2.2.2.2.1 co
            obtain ⟨z255, ez255, az255, bz255⟩ := gJ.int (k := 3) (G := gGG) sq171.1 tbi rfl rfl rfl
            refine gz_call rfl (by decide) rfl (by decide) (by decide) (gcal_of rfl rfl rfl (Nat.le_of_ble_eq_true rfl) (gJ.recv (G := gGG) sq171.1 tx rfl rfl)) (cl_ScanReader_isUnitRead _ sq171.1 x tx u (by omega) bi s172 tbi src s173 tsrc pic s174 tpic co s175 tco bn s176 tbn b0 s177 tb0 b1 s178 tb1 b2 s179 tb2 sz s181 (by omega) fq171_0 efq171_0 (by omega) z255 ez255 (by omega) tt s182 (by omega) fr s183 (by omega) cn s184 (by omega) uc s185 (by omega) ur s186 (by omega) bl s187 (by omega) hb0 s188 (by omega) vb0 s189 (by omega) C0 s190 (by omega) R0 s191 (by omega) oc0 s192 (by omega) or0 s193 (by omega) f0 s194 (by omega) hb1 s195 (by omega) vb1 s196 (by omega) C1 s197 (by omega) R1 s198 (by omega) oc1 s199 (by omega) or1 s200 (by omega) f1 s201 (by omega) hb2 s202 (by omega) vb2 s203 (by omega) C2 s204 (by omega) R2 s205 (by omega) oc2 s206 (by omega) or2 s207 (by omega) f2 s208 (by omega) sg s209 (by omega) sb s210 (by omega) (by omega) (by omega) (by omega) (by omega) (by omega) (by omega) (by omega) uq lp167k41 lp167k42 lp167k43) (fun q256 _ wq256 => ?_)
            obtain ⟨pq256, oq256, hq256⟩ := q256
            obtain ⟨xq256, zq256, fq256_0, fq256_1, gq256, aq256, bq256, efq256_0, afq256_0, bfq256_0, efq256_1, afq256_1, bfq256_1, uq256_0⟩ := wq256
            refine ⟨_, gq256, ?_⟩
            show gz gPP gGG gcn _ _ 51 [some (.ref x), some (.int (zi p)), some (.int (zi zq124)), some (.int (zi u)), some (.int (zi tn))] [.int (zi zq256)] hq256 _
            have sq256 : gSs rT 1027 ty [66010, 66013, 66014, 67001, 67002, 67003, 69999, 70999, 82011, 83011, 84011, 112999, 113999] h hq256 := gSs.tr sq171 xq256 (by decide)
            have s257 := (xq256.2.2.2.2.2 x 0 (by rw [tx]; decide)).trans s172
            have s258 := (xq256.2.2.2.2.2 bi 0 (by rw [tbi]; decide)).trans s173
            have s259 := (xq256.2.2.2.2.2 x 7 (by rw [tx]; decide)).trans s174
            have s260 := (xq256.2.2.2.2.2 pic 2 (by rw [tpic]; decide)).trans s175
            have s261 := (xq256.2.2.2.2.2 pic 0 (by rw [tpic]; decide)).trans s176
            have s262 := (xq256.2.2.2.2.2 bn 0 (by rw [tbn]; decide)).trans s177
            have s263 := (xq256.2.2.2.2.2 bn 1 (by rw [tbn]; decide)).trans s178
            have s264 := (xq256.2.2.2.2.2 bn 2 (by rw [tbn]; decide)).trans s179
            have s265 := (xq256.2.2.2.2.2 pic 3 (by rw [tpic]; decide)).trans s180
            have s266 := (xq256.2.2.2.2.2 src 1 (by rw [tsrc]; decide)).trans s181
            have s267 := (xq256.2.2.2.2.2 x 3 (by rw [tx]; decide)).trans s182
            have s268 := (xq256.2.2.2.2.2 x 2 (by rw [tx]; decide)).trans s183
            have s269 := (xq256.2.2.2.2.2 pic 7 (by rw [tpic]; decide)).trans s184
            have s270 := (xq256.2.2.2.2.2 pic 12 (by rw [tpic]; decide)).trans s185
            have s271 := (xq256.2.2.2.2.2 pic 13 (by rw [tpic]; decide)).trans s186
            have s272 := (xq256.2.2.2.2.2 pic 8 (by rw [tpic]; decide)).trans s187
            have s273 := (xq256.2.2.2.2.2 b0 1 (by rw [tb0]; decide)).trans s188
            have s274 := (xq256.2.2.2.2.2 b0 2 (by rw [tb0]; decide)).trans s189
            have s275 := (xq256.2.2.2.2.2 b0 4 (by rw [tb0]; decide)).trans s190
            have s276 := (xq256.2.2.2.2.2 b0 5 (by rw [tb0]; decide)).trans s191
            have s277 := (xq256.2.2.2.2.2 b0 6 (by rw [tb0]; decide)).trans s192
            have s278 := (xq256.2.2.2.2.2 b0 7 (by rw [tb0]; decide)).trans s193
            have s279 := (xq256.2.2.2.2.2 b0 8 (by rw [tb0]; decide)).trans s194
            have s280 := (xq256.2.2.2.2.2 b1 1 (by rw [tb1]; decide)).trans s195
            have s281 := (xq256.2.2.2.2.2 b1 2 (by rw [tb1]; decide)).trans s196
            have s282 := (xq256.2.2.2.2.2 b1 4 (by rw [tb1]; decide)).trans s197
            have s283 := (xq256.2.2.2.2.2 b1 5 (by rw [tb1]; decide)).trans s198
            have s284 := (xq256.2.2.2.2.2 b1 6 (by rw [tb1]; decide)).trans s199
            have s285 := (xq256.2.2.2.2.2 b1 7 (by rw [tb1]; decide)).trans s200
            have s286 := (xq256.2.2.2.2.2 b1 8 (by rw [tb1]; decide)).trans s201
            have s287 := (xq256.2.2.2.2.2 b2 1 (by rw [tb2]; decide)).trans s202
            have s288 := (xq256.2.2.2.2.2 b2 2 (by rw [tb2]; decide)).trans s203
            have s289 := (xq256.2.2.2.2.2 b2 4 (by rw [tb2]; decide)).trans s204
            have s290 := (xq256.2.2.2.2.2 b2 5 (by rw [tb2]; decide)).trans s205
            have s291 := (xq256.2.2.2.2.2 b2 6 (by rw [tb2]; decide)).trans s206
            have s292 := (xq256.2.2.2.2.2 b2 7 (by rw [tb2]; decide)).trans s207
            have s293 := (xq256.2.2.2.2.2 b2 8 (by rw [tb2]; decide)).trans s208
            have s294 := (xq256.2.2.2.2.2 x 11 (by rw [tx]; decide)).trans s209
            have s295 := (xq256.2.2.2.2.2 x 12 (by rw [tx]; decide)).trans s210
            by_cases hc296 : (zq256 : Int) = 0
            · refine gy_ifT (pc' := 60) rfl (by decide) (by decide) (by omega) hc296 ?_
              refine gz_s 3 (pc' := 63) (L' := [some (.ref x), some (.int (zi p)), some (.int (zi zq124)), some (.int (zi u)), some (.int (zi tn))]) (S' := [.int (zi zq124), .int (zi u), .ref x]) rfl ?_
              have hl297 : hq256.2.2.2.1 dm = h.2.2.2.1 dm := congrFun sq256.2.2.2.2.1 dm
              refine gz_call rfl (by decide) rfl (by decide) (by decide) (gcal_of rfl rfl rfl (Nat.le_of_ble_eq_true rfl) (gJ.recv (G := gGG) sq256.1 tx rfl rfl)) (cl_ScanReader_passDamaged _ sq256.1 x tx u (by omega) zq124 (by omega) bi s257 tbi src s258 tsrc pic s259 tpic bn s261 tbn b0 s262 tb0 b1 s263 tb1 b2 s264 tb2 dm s265 tdm sz s266 (by omega) fq256_0 efq256_0 (by omega) cn s269 (by omega) uc s270 (by omega) ur s271 (by omega) bl s272 (by omega) hb0 s273 (by omega) vb0 s274 (by omega) C0 s275 (by omega) R0 s276 (by omega) oc0 s277 (by omega) or0 s278 (by omega) f0 s279 (by omega) hb1 s280 (by omega) vb1 s281 (by omega) C1 s282 (by omega) R1 s283 (by omega) oc1 s284 (by omega) or1 s285 (by omega) f1 s286 (by omega) hb2 s287 (by omega) vb2 s288 (by omega) C2 s289 (by omega) R2 s290 (by omega) oc2 s291 (by omega) or2 s292 (by omega) f2 s293 (by omega) sg s294 (by omega) sb s295 (by omega) (by omega) (by omega) (by omega) (by omega) (by omega) (by omega) (by omega) uq lp167k41 lp167k42 lp167k43) (fun q298 _ wq298 => ?_)
              obtain ⟨pq298, oq298, hq298⟩ := q298
              obtain ⟨xq298, zq298, fq298_0, gq298, aq298, bq298, efq298_0, afq298_0, bfq298_0, uq298_0, uq298_1, uq298_2⟩ := wq298
              refine ⟨_, gq298, ?_⟩
              show gz gPP gGG gcn _ _ 66 [some (.ref x), some (.int (zi p)), some (.int (zi zq124)), some (.int (zi u)), some (.int (zi tn))] [.int (zi zq298)] hq298 _
              have sq298 : gSs rT 1027 ty [66010, 66013, 66014, 67001, 67002, 67003, 69999, 70999, 82011, 83011, 84011, 112999, 113999] h hq298 := gSs.tr sq256 xq298 (by decide)
              have s299 := (xq298.2.2.2.2.2 x 0 (by rw [tx]; decide)).trans s257
              have s300 := (xq298.2.2.2.2.2 bi 0 (by rw [tbi]; decide)).trans s258
              have s301 := (xq298.2.2.2.2.2 x 7 (by rw [tx]; decide)).trans s259
              have s302 := (xq298.2.2.2.2.2 pic 2 (by rw [tpic]; decide)).trans s260
              have s303 := (xq298.2.2.2.2.2 pic 0 (by rw [tpic]; decide)).trans s261
              have s304 := (xq298.2.2.2.2.2 bn 0 (by rw [tbn]; decide)).trans s262
              have s305 := (xq298.2.2.2.2.2 bn 1 (by rw [tbn]; decide)).trans s263
              have s306 := (xq298.2.2.2.2.2 bn 2 (by rw [tbn]; decide)).trans s264
              have s307 := (xq298.2.2.2.2.2 pic 3 (by rw [tpic]; decide)).trans s265
              have s308 := (xq298.2.2.2.2.2 src 1 (by rw [tsrc]; decide)).trans s266
              have s309 := (xq298.2.2.2.2.2 x 3 (by rw [tx]; decide)).trans s267
              have s310 := (xq298.2.2.2.2.2 x 2 (by rw [tx]; decide)).trans s268
              have s311 := (xq298.2.2.2.2.2 pic 7 (by rw [tpic]; decide)).trans s269
              have s312 := (xq298.2.2.2.2.2 pic 12 (by rw [tpic]; decide)).trans s270
              have s313 := (xq298.2.2.2.2.2 pic 13 (by rw [tpic]; decide)).trans s271
              have s314 := (xq298.2.2.2.2.2 pic 8 (by rw [tpic]; decide)).trans s272
              have s315 := (xq298.2.2.2.2.2 b0 1 (by rw [tb0]; decide)).trans s273
              have s316 := (xq298.2.2.2.2.2 b0 2 (by rw [tb0]; decide)).trans s274
              have s317 := (xq298.2.2.2.2.2 b0 4 (by rw [tb0]; decide)).trans s275
              have s318 := (xq298.2.2.2.2.2 b0 5 (by rw [tb0]; decide)).trans s276
              have s319 := (xq298.2.2.2.2.2 b0 6 (by rw [tb0]; decide)).trans s277
              have s320 := (xq298.2.2.2.2.2 b0 7 (by rw [tb0]; decide)).trans s278
              have s321 := (xq298.2.2.2.2.2 b0 8 (by rw [tb0]; decide)).trans s279
              have s322 := (xq298.2.2.2.2.2 b1 1 (by rw [tb1]; decide)).trans s280
              have s323 := (xq298.2.2.2.2.2 b1 2 (by rw [tb1]; decide)).trans s281
              have s324 := (xq298.2.2.2.2.2 b1 4 (by rw [tb1]; decide)).trans s282
              have s325 := (xq298.2.2.2.2.2 b1 5 (by rw [tb1]; decide)).trans s283
              have s326 := (xq298.2.2.2.2.2 b1 6 (by rw [tb1]; decide)).trans s284
              have s327 := (xq298.2.2.2.2.2 b1 7 (by rw [tb1]; decide)).trans s285
              have s328 := (xq298.2.2.2.2.2 b1 8 (by rw [tb1]; decide)).trans s286
              have s329 := (xq298.2.2.2.2.2 b2 1 (by rw [tb2]; decide)).trans s287
              have s330 := (xq298.2.2.2.2.2 b2 2 (by rw [tb2]; decide)).trans s288
              have s331 := (xq298.2.2.2.2.2 b2 4 (by rw [tb2]; decide)).trans s289
              have s332 := (xq298.2.2.2.2.2 b2 5 (by rw [tb2]; decide)).trans s290
              have s333 := (xq298.2.2.2.2.2 b2 6 (by rw [tb2]; decide)).trans s291
              have s334 := (xq298.2.2.2.2.2 b2 7 (by rw [tb2]; decide)).trans s292
              have s335 := (xq298.2.2.2.2.2 b2 8 (by rw [tb2]; decide)).trans s293
              have s336 := (xq298.2.2.2.2.2 x 11 (by rw [tx]; decide)).trans s294
              have s337 := (xq298.2.2.2.2.2 x 12 (by rw [tx]; decide)).trans s295
              refine gy_s 3 (pc' := 27) (L' := [some (.ref x), some (.int (zi p)), some (.int (zi zq124)), some (.int (zi zq298)), some (.int ((zi tn) + zi 1))]) (S' := []) (L2 := [some (.ref x), some (.int (zi p)), some (.int (zi zq124)), some (.int (zi zq298)), some (.int (zi (tn + 1)))]) (S2 := []) rfl (by simp only [zi_add, zi_sub, zi_mul, zi_neg, zi_and1, zi_and7, zi_and15, zi_and31, zi_and255]) (by simp only [zi_add, zi_sub, zi_mul, zi_neg, zi_and1, zi_and7, zi_and15, zi_and31, zi_and255]) ?_
              obtain ⟨z338, ez338, az338, bz338⟩ := gJ.int (k := 3) (G := gGG) sq298.1 tbi rfl rfl rfl
              exact gz_wk (ihlp167 hq298 zq298 (tn + 1) fq298_0 z338 (by omega) sq298 (by omega) (by omega) (by omega) (by omega) (by omega) s299 s300 s301 s302 s303 s304 s305 s306 s307 s308 s309 s310 s311 s312 s313 s314 s315 s316 s317 s318 s319 s320 s321 s322 s323 s324 s325 s326 s327 s328 s329 s330 s331 s332 s333 s334 s335 s336 s337 efq298_0 ez338 lp167k41 lp167k42 lp167k43) (gLw.s (gLw.s (gLw.s (gLw.s (gLw.s gLw.z)))))
            · refine gy_ifF rfl (by decide) (by decide) (by omega) hc296 ?_
              refine gy_s 4 (pc' := 27) (L' := [some (.ref x), some (.int (zi p)), some (.int (zi zq124)), some (.int ((zi u) + zi 1)), some (.int ((zi tn) + zi 1))]) (S' := []) (L2 := [some (.ref x), some (.int (zi p)), some (.int (zi zq124)), some (.int (zi (u + 1))), some (.int (zi (tn + 1)))]) (S2 := []) rfl (by simp only [zi_add, zi_sub, zi_mul, zi_neg, zi_and1, zi_and7, zi_and15, zi_and31, zi_and255]) (by simp only [zi_add, zi_sub, zi_mul, zi_neg, zi_and1, zi_and7, zi_and15, zi_and31, zi_and255]) ?_
              exact gz_wk (ihlp167 hq256 (u + 1) (tn + 1) fq256_0 fq256_1 (by omega) sq256 (by omega) (by omega) (by omega) (by omega) (by omega) s257 s258 s259 s260 s261 s262 s263 s264 s265 s266 s267 s268 s269 s270 s271 s272 s273 s274 s275 s276 s277 s278 s279 s280 s281 s282 s283 s284 s285 s286 s287 s288 s289 s290 s291 s292 s293 s294 s295 efq256_0 efq256_1 lp167k41 lp167k42 lp167k43) (gLw.s (gLw.s (gLw.s (gLw.s (gLw.s gLw.z)))))
  exact gz_wk (lp167 _ hq124 0 0 fq1_0 z166 (Nat.lt_succ_self _) sq124 (by omega) (by omega) (by omega) (by omega) (by omega) s125 s126 s127 s128 s129 s130 s131 s132 s133 s134 s135 s136 s137 s138 s139 s140 s141 s142 s143 s144 s145 s146 s147 s148 s149 s150 s151 s152 s153 s154 s155 s156 s157 s158 s159 s160 s161 s162 s163 s164 ez166 hypq0 hypq1 hypq2) (gLw.s (gLw.s (gLw.s (gLw.s (gLw.s gLw.z)))))
