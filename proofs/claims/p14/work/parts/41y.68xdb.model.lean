/-! ===== the encoder of the reference (by program) ===== -/
set_option maxRecDepth 20000 in
set_option maxHeartbeats 4000000 in
theorem mw_putMore (d : Nat) {ty : Nat → Nat} {h : gH} (hJ : gJ rT 1027 ty h) (m : Nat) (tm : ty m = 1) (p : Int) (rp : 0 ≤ p ∧ p ≤ 960) (a : Int) (ra : 1 ≤ a ∧ a ≤ 63) (b : Int) (rb : 0 ≤ b ∧ b ≤ 63) (bt : Int) (rbt : 0 ≤ bt ∧ bt ≤ 3) (w0 : Int) (ew0 : h.2.2.2.2 m 59 = .int (zi w0)) (rw0 : 0 ≤ w0 ∧ w0 ≤ 60000) (u0 : Int) (eu0 : h.2.2.2.2 m 61 = .int (zi u0)) (ru0 : 0 ≤ u0 ∧ u0 ≤ 127) (b0 : Int) (eb0 : h.2.2.2.2 m 62 = .int (zi b0)) (rb0 : 0 ≤ b0 ∧ b0 ≤ 7) (ic : Int) (eic : h.2.2.2.2 m 67 = .int (zi ic)) (ric : 1 ≤ ic ∧ ic ≤ 1) (mb : Int) (emb : h.2.2.2.2 m 64 = .int (zi mb)) (rmb : 0 ≤ mb ∧ mb ≤ 16) (cf : Nat → Int) (sg : gWt) (ek1 : Nat → Int × Int) (pp0 : w0 = sg.1) (pp1 : u0 = sg.2.1) (pp2 : b0 = sg.2.2.1) (pp3 : 4 * w0 + b0 + (35 * (b - a + 1) + 22) ≤ 239900) (pp4 : p + 64 ≤ 64 * mb) (pp5 : a ≤ b) (uq : gUq ty) (hyso : gSO ty sg h) (hyok : eeOk sg) (hytk1 : gTk (True) 1 ty ek1 h) (hyf33 : gRn (64 * mb).toNat ty 33 cf h) : gz gPP gGG gcn (d + 3) gt199 0 (gent [.ref m, .int (zi p), .int (zi a), .int (zi b), .int (zi bt)] 10) [] h (fun q _ => gSs rT 1027 ty [1059, 1061, 1062, 1075, 32999, 42999] h q.2.2 ∧ ∃ w1 u1 b1 : Int, gfin gt199 q.1 q.2.1 = some none ∧ q.2.2.2.2.2.2 m 59 = .int (zi w1) ∧ 0 ≤ w1 ∧ w1 ≤ 60000 ∧ q.2.2.2.2.2.2 m 61 = .int (zi u1) ∧ 0 ≤ u1 ∧ u1 ≤ 127 ∧ q.2.2.2.2.2.2 m 62 = .int (zi b1) ∧ 0 ≤ b1 ∧ b1 ≤ 7 ∧ (w1 = (eeRz (ewS ek1) eeN bt cf p a b sg).1) ∧ (u1 = (eeRz (ewS ek1) eeN bt cf p a b sg).2.1) ∧ (b1 = (eeRz (ewS ek1) eeN bt cf p a b sg).2.2.1) ∧ (4 * w1 + b1 ≤ 4 * w0 + b0 + (35 * (b - a + 1) + 22)) ∧ (w0 ≤ w1) ∧ (gSO ty (eeRz (ewS ek1) eeN bt cf p a b sg) q.2.2) ∧ (eeOk (eeRz (ewS ek1) eeN bt cf p a b sg))) := by
  have hS : gSs rT 1027 ty [1059, 1061, 1062, 1075, 32999, 42999] h h := gSs.rf hJ
  refine gy_s 6 (pc' := 8) (L' := [some (.ref m), some (.int (zi p)), some (.int (zi a)), some (.int (zi b)), some (.int (zi bt)), some (.int ((zi a) - (zi 1))), some (.int (zi a)), none, none, none]) (S' := []) (L2 := [some (.ref m), some (.int (zi p)), some (.int (zi a)), some (.int (zi b)), some (.int (zi bt)), some (.int (zi (a - 1))), some (.int (zi a)), none, none, none]) (S2 := []) rfl (by simp only [zi_add, zi_sub, zi_mul, zi_neg, zi_and1, zi_and7, zi_and15, zi_and31, zi_and255]) (by simp only [zi_add, zi_sub, zi_mul, zi_neg, zi_and1, zi_and7, zi_and15, zi_and31, zi_and255]) ?_
  have lp1 : ∀ (fu : Nat) (h2 : gH) (ln : Int) (k : Int), (65 - k).toNat < fu → gSs rT 1027 ty [1059, 1061, 1062, 1075, 32999, 42999] h h2 → (0 ≤ ln ∧ ln ≤ 63) → (1 ≤ k ∧ k ≤ 64) → (ln < k) → (a ≤ k) → (k ≤ b + 1) → ((eeLn bt cf (p + a).toNat a (k - a).toNat = -1 → ln = a - 1)) → ((¬ eeLn bt cf (p + a).toNat a (k - a).toNat = -1 → ln = eeLn bt cf (p + a).toNat a (k - a).toNat)) → h2.2.2.2.2 m 59 = .int (zi w0) → h2.2.2.2.2 m 61 = .int (zi u0) → h2.2.2.2.2 m 62 = .int (zi b0) → h2.2.2.2.2 m 67 = .int (zi ic) → h2.2.2.2.2 m 64 = .int (zi mb) → gSO ty sg h2 → eeOk sg → gTk (True) 1 ty ek1 h2 → gRn (64 * mb).toNat ty 33 cf h2 → gz gPP gGG gcn (d + 3) gt199 8 [some (.ref m), some (.int (zi p)), some (.int (zi a)), some (.int (zi b)), some (.int (zi bt)), some (.int (zi ln)), some (.int (zi k)), none, none, none] [] h2 (fun q _ => gSs rT 1027 ty [1059, 1061, 1062, 1075, 32999, 42999] h q.2.2 ∧ ∃ w1 u1 b1 : Int, gfin gt199 q.1 q.2.1 = some none ∧ q.2.2.2.2.2.2 m 59 = .int (zi w1) ∧ 0 ≤ w1 ∧ w1 ≤ 60000 ∧ q.2.2.2.2.2.2 m 61 = .int (zi u1) ∧ 0 ≤ u1 ∧ u1 ≤ 127 ∧ q.2.2.2.2.2.2 m 62 = .int (zi b1) ∧ 0 ≤ b1 ∧ b1 ≤ 7 ∧ (w1 = (eeRz (ewS ek1) eeN bt cf p a b sg).1) ∧ (u1 = (eeRz (ewS ek1) eeN bt cf p a b sg).2.1) ∧ (b1 = (eeRz (ewS ek1) eeN bt cf p a b sg).2.2.1) ∧ (4 * w1 + b1 ≤ 4 * w0 + b0 + (35 * (b - a + 1) + 22)) ∧ (w0 ≤ w1) ∧ (gSO ty (eeRz (ewS ek1) eeN bt cf p a b sg) q.2.2) ∧ (eeOk (eeRz (ewS ek1) eeN bt cf p a b sg))) := by
    intro fu
    induction fu with
    | zero => intro h2 ln k hm; exact absurd hm (Nat.not_lt_zero _)
    | succ fu ihlp1 =>
      intro h2 ln k lp1m sh2 lp1f0 lp1f1 lp1f2 lp1f3 lp1f4 lp1f5 lp1f6 lp1k0 lp1k1 lp1k2 lp1k3 lp1k4 lp1k5 lp1k6 lp1k7 lp1k8
      refine gz_s 2 (pc' := 11) (L' := [some (.ref m), some (.int (zi p)), some (.int (zi a)), some (.int (zi b)), some (.int (zi bt)), some (.int (zi ln)), some (.int (zi k)), none, none, none]) (S' := [.int (zi b), .int (zi k)]) rfl ?_
      by_cases hc3 : (b : Int) < k
      · refine gy_icT (pc' := 53) rfl (by decide) (by decide) (by omega) (by omega) hc3 ?_
        have hlE : eeLn bt cf (p + a).toNat a (k - a).toNat = eeLk bt cf p a b := by unfold eeLk; rw [show (k - a).toNat = (b - a + 1).toNat by omega]
        have hlb : -1 ≤ eeLk bt cf p a b ∧ eeLk bt cf p a b ≤ b := by
          have h9 := eeLn_b (lw := bt) (cf := cf) (b := (p + a).toNat) (k0 := a) (by omega) (b - a + 1).toNat
          unfold eeLk
          omega
        have hll : (eeLk bt cf p a b = -1 → ln = a - 1) ∧ (¬ eeLk bt cf p a b = -1 → ln = eeLk bt cf p a b) := by rw [← hlE]; exact ⟨by omega, by omega⟩
        have hlq : ∀ j9 : Int, a ≤ j9 → (j9 ≤ ln ↔ j9 ≤ eeLk bt cf p a b) := fun j9 h9 => by omega
        clear hll lp1f5 lp1f6 hlE
        refine gz_s 4 (pc' := 58) (L' := [some (.ref m), some (.int (zi p)), some (.int (zi a)), some (.int (zi b)), some (.int (zi bt)), some (.int (zi ln)), some (.int (zi 0)), none, none, none]) (S' := [.int (zi 0), .ref m]) rfl ?_
        refine gs_put rfl (by decide) rfl sh2 tm rfl rfl rfl rfl (Or.inl rfl) (by decide) (by omega) (by omega) (fun h4 sh4 eh4 fh4 => ?_)
        have pr5 := gSO.pt fh4 tm (by decide) lp1k5
        have pr6 := gTk.pt fh4 tm (by decide) (by decide) lp1k7
        have pr7 := gRn.pt fh4 tm (by decide) lp1k8
        have s8 := (fh4 m 59 (fun q => absurd q.2 (by decide))).trans lp1k0
        have s9 := (fh4 m 61 (fun q => absurd q.2 (by decide))).trans lp1k1
        have s10 := (fh4 m 62 (fun q => absurd q.2 (by decide))).trans lp1k2
        have s11 := (fh4 m 67 (fun q => absurd q.2 (by decide))).trans lp1k3
        have s12 := (fh4 m 64 (fun q => absurd q.2 (by decide))).trans lp1k4
        refine gz_s 2 (pc' := 64) (L' := [some (.ref m), some (.int (zi p)), some (.int (zi a)), some (.int (zi b)), some (.int (zi bt)), some (.int (zi ln)), some (.int (zi 0)), some (.int (zi a)), none, none]) (S' := []) rfl ?_
        have hk14 : (eeRk (ewS ek1) eeN bt cf p a b sg a).2.2.2 = sg := by rw [eeRk_0]
        have hk14_1 : ((eeRk (ewS ek1) eeN bt cf p a b sg a).2.2.2).1 = (sg).1 := by rw [hk14]
        have hk14_21 : ((eeRk (ewS ek1) eeN bt cf p a b sg a).2.2.2).2.1 = (sg).2.1 := by rw [hk14]
        have hk14_221 : ((eeRk (ewS ek1) eeN bt cf p a b sg a).2.2.2).2.2.1 = (sg).2.2.1 := by rw [hk14]
        have hso15 : gSO ty ((eeRk (ewS ek1) eeN bt cf p a b sg a).2.2.2) h4 := by rw [hk14]; exact pr5
        have hok16 : eeOk ((eeRk (ewS ek1) eeN bt cf p a b sg a).2.2.2) := by rw [hk14]; exact lp1k6
        have hok16c := hok16.cur
        obtain ⟨c17, ec17, tc17⟩ := gJ.ref (k := 76) (G := gGG) sh4.1 tm rfl rfl rfl
        have hwa18 : gWa ty (eeRk (ewS ek1) eeN bt cf p a b sg a).2.1 (eeRk (ewS ek1) eeN bt cf p a b sg a).2.2.1 h4 := by rw [eeRk_0]; exact gWa.zero uq tc17
        have lp13 : ∀ (fu : Nat) (h19 : gH) (zr : Int) (k2 : Int) (wv : Int) (uv : Int) (bv : Int) (wt : Int), (65 - k2).toNat < fu → gSs rT 1027 ty [1059, 1061, 1062, 1075, 32999, 42999] h h19 → (0 ≤ zr ∧ zr ≤ 63) → (1 ≤ k2 ∧ k2 ≤ 64) → (0 ≤ wv ∧ wv ≤ 60000) → (0 ≤ uv ∧ uv ≤ 127) → (0 ≤ bv ∧ bv ≤ 7) → (0 ≤ wt ∧ wt ≤ 64) → (zr = (eeRk (ewS ek1) eeN bt cf p a b sg k2).1) → (wt = (((eeRk (ewS ek1) eeN bt cf p a b sg k2).2.2.1 : Nat) : Int)) → (a ≤ k2) → (k2 ≤ b + 1) → (zr + wt ≤ k2 - a) → (wv = ((eeRk (ewS ek1) eeN bt cf p a b sg k2).2.2.2).1) → (uv = ((eeRk (ewS ek1) eeN bt cf p a b sg k2).2.2.2).2.1) → (bv = ((eeRk (ewS ek1) eeN bt cf p a b sg k2).2.2.2).2.2.1) → (4 * wv + bv + 35 * zr + wt ≤ 4 * w0 + b0 + 35 * (k2 - a)) → (w0 ≤ wv) → h19.2.2.2.2 m 67 = .int (zi ic) → h19.2.2.2.2 m 64 = .int (zi mb) → h19.2.2.2.2 m 59 = .int (zi wv) → h19.2.2.2.2 m 61 = .int (zi uv) → h19.2.2.2.2 m 62 = .int (zi bv) → h19.2.2.2.2 m 75 = .int (zi wt) → gTk (True) 1 ty ek1 h19 → gRn (64 * mb).toNat ty 33 cf h19 → gSO ty ((eeRk (ewS ek1) eeN bt cf p a b sg k2).2.2.2) h19 → eeOk ((eeRk (ewS ek1) eeN bt cf p a b sg k2).2.2.2) → gWa ty ((eeRk (ewS ek1) eeN bt cf p a b sg k2).2.1) ((eeRk (ewS ek1) eeN bt cf p a b sg k2).2.2.1) h19 → gz gPP gGG gcn (d + 3) gt199 64 [some (.ref m), some (.int (zi p)), some (.int (zi a)), some (.int (zi b)), some (.int (zi bt)), some (.int (zi ln)), some (.int (zi zr)), some (.int (zi k2)), none, none] [] h19 (fun q _ => gSs rT 1027 ty [1059, 1061, 1062, 1075, 32999, 42999] h q.2.2 ∧ ∃ w1 u1 b1 : Int, gfin gt199 q.1 q.2.1 = some none ∧ q.2.2.2.2.2.2 m 59 = .int (zi w1) ∧ 0 ≤ w1 ∧ w1 ≤ 60000 ∧ q.2.2.2.2.2.2 m 61 = .int (zi u1) ∧ 0 ≤ u1 ∧ u1 ≤ 127 ∧ q.2.2.2.2.2.2 m 62 = .int (zi b1) ∧ 0 ≤ b1 ∧ b1 ≤ 7 ∧ (w1 = (eeRz (ewS ek1) eeN bt cf p a b sg).1) ∧ (u1 = (eeRz (ewS ek1) eeN bt cf p a b sg).2.1) ∧ (b1 = (eeRz (ewS ek1) eeN bt cf p a b sg).2.2.1) ∧ (4 * w1 + b1 ≤ 4 * w0 + b0 + (35 * (b - a + 1) + 22)) ∧ (w0 ≤ w1) ∧ (gSO ty (eeRz (ewS ek1) eeN bt cf p a b sg) q.2.2) ∧ (eeOk (eeRz (ewS ek1) eeN bt cf p a b sg))) := by
          intro fu
          induction fu with
          | zero => intro h19 zr k2 wv uv bv wt hm; exact absurd hm (Nat.not_lt_zero _)
          | succ fu ihlp13 =>
            intro h19 zr k2 wv uv bv wt lp13m sh19 lp13f0 lp13f1 lp13f2 lp13f3 lp13f4 lp13f5 lp13f6 lp13f7 lp13f8 lp13f9 lp13f10 lp13f11 lp13f12 lp13f13 lp13f14 lp13f15 lp13k0 lp13k1 lp13k2 lp13k3 lp13k4 lp13k5 lp13k6 lp13k7 lp13k8 lp13k9 lp13k10
            obtain ⟨er, her⟩ : ∃ x9 : Int × Int × Nat × gWt, x9 = eeRk (ewS ek1) eeN bt cf p a b sg k2 := ⟨_, rfl⟩
            rw [← her] at lp13f6 lp13f7 lp13f11 lp13f12 lp13f13 lp13k8 lp13k9 lp13k10
            clear hk14_1 hk14_21 hk14_221 hok16c
            refine gz_s 2 (pc' := 67) (L' := [some (.ref m), some (.int (zi p)), some (.int (zi a)), some (.int (zi b)), some (.int (zi bt)), some (.int (zi ln)), some (.int (zi zr)), some (.int (zi k2)), none, none]) (S' := [.int (zi b), .int (zi k2)]) rfl ?_
            by_cases hc20 : (b : Int) < k2
            · refine gy_icT (pc' := 220) rfl (by decide) (by decide) (by omega) (by omega) hc20 ?_
              refine gz_s 1 (pc' := 222) (L' := [some (.ref m), some (.int (zi p)), some (.int (zi a)), some (.int (zi b)), some (.int (zi bt)), some (.int (zi ln)), some (.int (zi zr)), some (.int (zi k2)), none, none]) (S' := [.int (zi zr)]) rfl ?_
              by_cases hc21 : (0 : Int) < zr
              · refine gy_ifT (pc' := 232) rfl (by decide) (by decide) (by omega) hc21 ?_
                refine gz_s 3 (pc' := 235) (L' := [some (.ref m), some (.int (zi p)), some (.int (zi a)), some (.int (zi b)), some (.int (zi bt)), some (.int (zi ln)), some (.int (zi zr)), some (.int (zi k2)), none, none]) (S' := [.int (zi 0), .int (zi 1), .ref m]) rfl ?_
                refine gz_call rfl (by decide) rfl (by decide) (by decide) (gcal_of rfl rfl rfl (Nat.le_of_ble_eq_true rfl) (gJ.recv (G := gGG) sh19.1 tm rfl rfl)) (mw_putSymbol1 _ sh19.1 m tm 1 ⟨by omega, by omega⟩ 0 ⟨by omega, by omega⟩ wv lp13k2 lp13f2 uv lp13k3 lp13f3 bv lp13k4 lp13f4 ic lp13k0 ric er.2.2.2 ek1 (Int.le_antisymm (by omega) (by omega)) (Int.le_antisymm (by omega) (by omega)) (Int.le_antisymm (by omega) (by omega)) (by omega) uq lp13k8 lp13k9 lp13k6) (fun q22 _ wq22 => ?_)
                obtain ⟨pq22, oq22, hq22⟩ := q22
                obtain ⟨xq22, fq22_0, fq22_1, fq22_2, gq22, efq22_0, afq22_0, bfq22_0, efq22_1, afq22_1, bfq22_1, efq22_2, afq22_2, bfq22_2, uq22_0, uq22_1, uq22_2, uq22_3, uq22_4, yq22_0, yq22_1⟩ := wq22
                have ch22a := ch_a lp13f14 uq22_3
                have ch22b := Int.le_trans lp13f15 uq22_4
                clear lp13f14 lp13f15 uq22_3 uq22_4 lp13f2 lp13f3 lp13f4 lp13f11 lp13f12 lp13f13
                refine ⟨_, gq22, ?_⟩
                show gz gPP gGG gcn _ _ 238 [some (.ref m), some (.int (zi p)), some (.int (zi a)), some (.int (zi b)), some (.int (zi bt)), some (.int (zi ln)), some (.int (zi zr)), some (.int (zi k2)), none, none] [] hq22 _
                have sq22 := gSs.tr sh19 xq22 (by decide)
                have s23 := (xq22.2.2.2.2.2 m 67 (by rw [tm]; decide)).trans lp13k0
                have s24 := (xq22.2.2.2.2.2 m 64 (by rw [tm]; decide)).trans lp13k1
                have s25 := (xq22.2.2.2.2.2 m 75 (by rw [tm]; decide)).trans lp13k5
                have pr26 := gTk.fr xq22.2 (by decide) (by decide) lp13k6
                have pr27 := gRn.fr xq22.2 (by decide) lp13k7
                have pr28 := gWa.fr xq22.2 (by decide) lp13k10
                have hwa29e : (wt).toNat = er.2.2.1 := (congrArg Int.toNat lp13f7).trans (Int.toNat_natCast _)
                have hwa29 : gWa ty er.2.1 (wt).toNat hq22 := by rw [hwa29e]; exact pr28
                refine gz_s 1 (pc' := 239) (L' := [some (.ref m), some (.int (zi p)), some (.int (zi a)), some (.int (zi b)), some (.int (zi bt)), some (.int (zi ln)), some (.int (zi zr)), some (.int (zi k2)), none, none]) (S' := [.ref m]) rfl ?_
                refine gz_call rfl (by decide) rfl (by decide) (by decide) (gcal_of rfl rfl rfl (Nat.le_of_ble_eq_true rfl) (gJ.recv (G := gGG) sq22.1 tm rfl rfl)) (mw_putWaiting _ sq22.1 m tm fq22_0 efq22_0 ⟨afq22_0, bfq22_0⟩ fq22_1 efq22_1 ⟨afq22_1, bfq22_1⟩ fq22_2 efq22_2 ⟨afq22_2, bfq22_2⟩ ic s23 ric wt s25 lp13f5 (ewS ek1 0 er.2.2.2) er.2.1 (Int.le_antisymm (by omega) (by omega)) (Int.le_antisymm (by omega) (by omega)) (Int.le_antisymm (by omega) (by omega)) (by omega) uq yq22_0 yq22_1 hwa29) (fun q30 _ wq30 => ?_)
                obtain ⟨pq30, oq30, hq30⟩ := q30
                obtain ⟨xq30, fq30_0, fq30_1, fq30_2, fq30_3, gq30, efq30_0, afq30_0, bfq30_0, efq30_1, afq30_1, bfq30_1, efq30_2, afq30_2, bfq30_2, efq30_3, afq30_3, bfq30_3, uq30_0, uq30_1, uq30_2, uq30_3, uq30_4, uq30_5, yq30_0, yq30_1, yq30_2⟩ := wq30
                have ch30a := ch_a ch22a uq30_3
                have ch30b := Int.le_trans ch22b uq30_4
                clear ch22a ch22b uq30_3 uq30_4 afq22_0 bfq22_0 afq22_1 bfq22_1 afq22_2 bfq22_2 uq22_0 uq22_1 uq22_2
                refine ⟨_, gq30, ?_⟩
                show gz gPP gGG gcn _ _ 242 [some (.ref m), some (.int (zi p)), some (.int (zi a)), some (.int (zi b)), some (.int (zi bt)), some (.int (zi ln)), some (.int (zi zr)), some (.int (zi k2)), none, none] [] hq30 _
                have sq30 := gSs.tr sq22 xq30 (by decide)
                have s31 := (xq30.2.2.2.2.2 m 67 (by rw [tm]; decide)).trans s23
                have s32 := (xq30.2.2.2.2.2 m 64 (by rw [tm]; decide)).trans s24
                have pr33 := gTk.fr xq30.2 (by decide) (by decide) pr26
                have pr34 := gRn.fr xq30.2 (by decide) pr27
                have pr35 := gWa.fr xq30.2 (by decide) hwa29
                have hre := eeRk_e (sy := (ewS ek1)) (pl := eeN) (lw := bt) (p := p) (fr := a) (tt := b) (k := k2) (cf := cf) (t := sg) (by omega) (by omega) (Int.le_antisymm (by omega) (by omega))
                rw [← her] at hre
                have hk36 : eeN er.2.1 er.2.2.1 (ewS ek1 0 er.2.2.2) = eeN er.2.1 wt.toNat (ewS ek1 0 er.2.2.2) := by rw [hwa29e]
                have hk36_1 : (eeN er.2.1 er.2.2.1 (ewS ek1 0 er.2.2.2)).1 = (eeN er.2.1 wt.toNat (ewS ek1 0 er.2.2.2)).1 := by rw [hk36]
                have hk36_21 : (eeN er.2.1 er.2.2.1 (ewS ek1 0 er.2.2.2)).2.1 = (eeN er.2.1 wt.toNat (ewS ek1 0 er.2.2.2)).2.1 := by rw [hk36]
                have hk36_221 : (eeN er.2.1 er.2.2.1 (ewS ek1 0 er.2.2.2)).2.2.1 = (eeN er.2.1 wt.toNat (ewS ek1 0 er.2.2.2)).2.2.1 := by rw [hk36]
                have hso37 : gSO ty (eeN er.2.1 er.2.2.1 (ewS ek1 0 er.2.2.2)) hq30 := by rw [hk36]; exact yq30_0
                have hok38 : eeOk (eeN er.2.1 er.2.2.1 (ewS ek1 0 er.2.2.2)) := by rw [hk36]; exact yq30_1
                have hok38c := hok38.cur
                have hk39 : eeRz (ewS ek1) eeN bt cf p a b sg = eeN er.2.1 er.2.2.1 (ewS ek1 0 er.2.2.2) := hre.1 (by omega)
                have hk39_1 : (eeRz (ewS ek1) eeN bt cf p a b sg).1 = (eeN er.2.1 er.2.2.1 (ewS ek1 0 er.2.2.2)).1 := by rw [hk39]
                have hk39_21 : (eeRz (ewS ek1) eeN bt cf p a b sg).2.1 = (eeN er.2.1 er.2.2.1 (ewS ek1 0 er.2.2.2)).2.1 := by rw [hk39]
                have hk39_221 : (eeRz (ewS ek1) eeN bt cf p a b sg).2.2.1 = (eeN er.2.1 er.2.2.1 (ewS ek1 0 er.2.2.2)).2.2.1 := by rw [hk39]
                have hso40 : gSO ty (eeRz (ewS ek1) eeN bt cf p a b sg) hq30 := by rw [hk39]; exact hso37
                have hok41 : eeOk (eeRz (ewS ek1) eeN bt cf p a b sg) := by rw [hk39]; exact hok38
                have hok41c := hok41.cur
                clear hwa29e
                exact gz_end (I := .return_) (len := 1) rfl (Or.inl rfl) ⟨sq30, fq30_0, fq30_1, fq30_2, rfl, efq30_0, (by omega), (by omega), efq30_1, (by omega), (by omega), efq30_2, (by omega), (by omega), (Int.le_antisymm (by omega) (by omega)), (Int.le_antisymm (by omega) (by omega)), (Int.le_antisymm (by omega) (by omega)), (by omega), (by omega), hso40, hok41⟩
              · refine gy_ifF rfl (by decide) (by decide) (by omega) hc21 ?_
                refine gz_s 1 (pc' := 226) (L' := [some (.ref m), some (.int (zi p)), some (.int (zi a)), some (.int (zi b)), some (.int (zi bt)), some (.int (zi ln)), some (.int (zi zr)), some (.int (zi k2)), none, none]) (S' := [.ref m]) rfl ?_
                refine gs_gtk rfl (by decide) rfl sh19.1 tm rfl rfl lp13k5 ?_
                by_cases hc42 : (wt : Int) ≤ 0
                · refine gy_ifT (pc' := 238) rfl (by decide) (by decide) (by omega) hc42 ?_
                  have hwa43e : (wt).toNat = er.2.2.1 := (congrArg Int.toNat lp13f7).trans (Int.toNat_natCast _)
                  have hwa43 : gWa ty er.2.1 (wt).toNat h19 := by rw [hwa43e]; exact lp13k10
                  refine gz_s 1 (pc' := 239) (L' := [some (.ref m), some (.int (zi p)), some (.int (zi a)), some (.int (zi b)), some (.int (zi bt)), some (.int (zi ln)), some (.int (zi zr)), some (.int (zi k2)), none, none]) (S' := [.ref m]) rfl ?_
                  refine gz_call rfl (by decide) rfl (by decide) (by decide) (gcal_of rfl rfl rfl (Nat.le_of_ble_eq_true rfl) (gJ.recv (G := gGG) sh19.1 tm rfl rfl)) (mw_putWaiting _ sh19.1 m tm wv lp13k2 lp13f2 uv lp13k3 lp13f3 bv lp13k4 lp13f4 ic lp13k0 ric wt lp13k5 lp13f5 er.2.2.2 er.2.1 (Int.le_antisymm (by omega) (by omega)) (Int.le_antisymm (by omega) (by omega)) (Int.le_antisymm (by omega) (by omega)) (by omega) uq lp13k8 lp13k9 hwa43) (fun q44 _ wq44 => ?_)
                  obtain ⟨pq44, oq44, hq44⟩ := q44
                  obtain ⟨xq44, fq44_0, fq44_1, fq44_2, fq44_3, gq44, efq44_0, afq44_0, bfq44_0, efq44_1, afq44_1, bfq44_1, efq44_2, afq44_2, bfq44_2, efq44_3, afq44_3, bfq44_3, uq44_0, uq44_1, uq44_2, uq44_3, uq44_4, uq44_5, yq44_0, yq44_1, yq44_2⟩ := wq44
                  have ch44a := ch_a lp13f14 uq44_3
                  have ch44b := Int.le_trans lp13f15 uq44_4
                  clear lp13f14 lp13f15 uq44_3 uq44_4 lp13f2 lp13f3 lp13f4 lp13f11 lp13f12 lp13f13
                  refine ⟨_, gq44, ?_⟩
                  show gz gPP gGG gcn _ _ 242 [some (.ref m), some (.int (zi p)), some (.int (zi a)), some (.int (zi b)), some (.int (zi bt)), some (.int (zi ln)), some (.int (zi zr)), some (.int (zi k2)), none, none] [] hq44 _
                  have sq44 := gSs.tr sh19 xq44 (by decide)
                  have s45 := (xq44.2.2.2.2.2 m 67 (by rw [tm]; decide)).trans lp13k0
                  have s46 := (xq44.2.2.2.2.2 m 64 (by rw [tm]; decide)).trans lp13k1
                  have pr47 := gTk.fr xq44.2 (by decide) (by decide) lp13k6
                  have pr48 := gRn.fr xq44.2 (by decide) lp13k7
                  have pr49 := gWa.fr xq44.2 (by decide) hwa43
                  have hre := eeRk_e (sy := (ewS ek1)) (pl := eeN) (lw := bt) (p := p) (fr := a) (tt := b) (k := k2) (cf := cf) (t := sg) (by omega) (by omega) (Int.le_antisymm (by omega) (by omega))
                  rw [← her] at hre
                  have hk50 : eeRz (ewS ek1) eeN bt cf p a b sg = eeN er.2.1 wt.toNat er.2.2.2 := (hre.2 (by omega)).trans (by rw [Int.toNat_of_nonpos (by omega : wt ≤ 0)]; rfl)
                  have hk50_1 : (eeRz (ewS ek1) eeN bt cf p a b sg).1 = (eeN er.2.1 wt.toNat er.2.2.2).1 := by rw [hk50]
                  have hk50_21 : (eeRz (ewS ek1) eeN bt cf p a b sg).2.1 = (eeN er.2.1 wt.toNat er.2.2.2).2.1 := by rw [hk50]
                  have hk50_221 : (eeRz (ewS ek1) eeN bt cf p a b sg).2.2.1 = (eeN er.2.1 wt.toNat er.2.2.2).2.2.1 := by rw [hk50]
                  have hso51 : gSO ty (eeRz (ewS ek1) eeN bt cf p a b sg) hq44 := by rw [hk50]; exact yq44_0
                  have hok52 : eeOk (eeRz (ewS ek1) eeN bt cf p a b sg) := by rw [hk50]; exact yq44_1
                  have hok52c := hok52.cur
                  clear hwa43e
                  exact gz_end (I := .return_) (len := 1) rfl (Or.inl rfl) ⟨sq44, fq44_0, fq44_1, fq44_2, rfl, efq44_0, (by omega), (by omega), efq44_1, (by omega), (by omega), efq44_2, (by omega), (by omega), (Int.le_antisymm (by omega) (by omega)), (Int.le_antisymm (by omega) (by omega)), (Int.le_antisymm (by omega) (by omega)), (by omega), (by omega), hso51, hok52⟩
                · refine gy_ifF rfl (by decide) (by decide) (by omega) hc42 ?_
                  refine gz_s 3 (pc' := 235) (L' := [some (.ref m), some (.int (zi p)), some (.int (zi a)), some (.int (zi b)), some (.int (zi bt)), some (.int (zi ln)), some (.int (zi zr)), some (.int (zi k2)), none, none]) (S' := [.int (zi 0), .int (zi 1), .ref m]) rfl ?_
                  refine gz_call rfl (by decide) rfl (by decide) (by decide) (gcal_of rfl rfl rfl (Nat.le_of_ble_eq_true rfl) (gJ.recv (G := gGG) sh19.1 tm rfl rfl)) (mw_putSymbol1 _ sh19.1 m tm 1 ⟨by omega, by omega⟩ 0 ⟨by omega, by omega⟩ wv lp13k2 lp13f2 uv lp13k3 lp13f3 bv lp13k4 lp13f4 ic lp13k0 ric er.2.2.2 ek1 (Int.le_antisymm (by omega) (by omega)) (Int.le_antisymm (by omega) (by omega)) (Int.le_antisymm (by omega) (by omega)) (by omega) uq lp13k8 lp13k9 lp13k6) (fun q53 _ wq53 => ?_)
                  obtain ⟨pq53, oq53, hq53⟩ := q53
                  obtain ⟨xq53, fq53_0, fq53_1, fq53_2, gq53, efq53_0, afq53_0, bfq53_0, efq53_1, afq53_1, bfq53_1, efq53_2, afq53_2, bfq53_2, uq53_0, uq53_1, uq53_2, uq53_3, uq53_4, yq53_0, yq53_1⟩ := wq53
                  have ch53a := ch_a lp13f14 uq53_3
                  have ch53b := Int.le_trans lp13f15 uq53_4
                  clear lp13f14 lp13f15 uq53_3 uq53_4 lp13f2 lp13f3 lp13f4 lp13f11 lp13f12 lp13f13
                  refine ⟨_, gq53, ?_⟩
                  show gz gPP gGG gcn _ _ 238 [some (.ref m), some (.int (zi p)), some (.int (zi a)), some (.int (zi b)), some (.int (zi bt)), some (.int (zi ln)), some (.int (zi zr)), some (.int (zi k2)), none, none] [] hq53 _
                  have sq53 := gSs.tr sh19 xq53 (by decide)
                  have s54 := (xq53.2.2.2.2.2 m 67 (by rw [tm]; decide)).trans lp13k0
                  have s55 := (xq53.2.2.2.2.2 m 64 (by rw [tm]; decide)).trans lp13k1
                  have s56 := (xq53.2.2.2.2.2 m 75 (by rw [tm]; decide)).trans lp13k5
                  have pr57 := gTk.fr xq53.2 (by decide) (by decide) lp13k6
                  have pr58 := gRn.fr xq53.2 (by decide) lp13k7
                  have pr59 := gWa.fr xq53.2 (by decide) lp13k10
                  have hwa60e : (wt).toNat = er.2.2.1 := (congrArg Int.toNat lp13f7).trans (Int.toNat_natCast _)
                  have hwa60 : gWa ty er.2.1 (wt).toNat hq53 := by rw [hwa60e]; exact pr59
                  refine gz_s 1 (pc' := 239) (L' := [some (.ref m), some (.int (zi p)), some (.int (zi a)), some (.int (zi b)), some (.int (zi bt)), some (.int (zi ln)), some (.int (zi zr)), some (.int (zi k2)), none, none]) (S' := [.ref m]) rfl ?_
                  refine gz_call rfl (by decide) rfl (by decide) (by decide) (gcal_of rfl rfl rfl (Nat.le_of_ble_eq_true rfl) (gJ.recv (G := gGG) sq53.1 tm rfl rfl)) (mw_putWaiting _ sq53.1 m tm fq53_0 efq53_0 ⟨afq53_0, bfq53_0⟩ fq53_1 efq53_1 ⟨afq53_1, bfq53_1⟩ fq53_2 efq53_2 ⟨afq53_2, bfq53_2⟩ ic s54 ric wt s56 lp13f5 (ewS ek1 0 er.2.2.2) er.2.1 (Int.le_antisymm (by omega) (by omega)) (Int.le_antisymm (by omega) (by omega)) (Int.le_antisymm (by omega) (by omega)) (by omega) uq yq53_0 yq53_1 hwa60) (fun q61 _ wq61 => ?_)
                  obtain ⟨pq61, oq61, hq61⟩ := q61
                  obtain ⟨xq61, fq61_0, fq61_1, fq61_2, fq61_3, gq61, efq61_0, afq61_0, bfq61_0, efq61_1, afq61_1, bfq61_1, efq61_2, afq61_2, bfq61_2, efq61_3, afq61_3, bfq61_3, uq61_0, uq61_1, uq61_2, uq61_3, uq61_4, uq61_5, yq61_0, yq61_1, yq61_2⟩ := wq61
                  have ch61a := ch_a ch53a uq61_3
                  have ch61b := Int.le_trans ch53b uq61_4
                  clear ch53a ch53b uq61_3 uq61_4 afq53_0 bfq53_0 afq53_1 bfq53_1 afq53_2 bfq53_2 uq53_0 uq53_1 uq53_2
                  refine ⟨_, gq61, ?_⟩
                  show gz gPP gGG gcn _ _ 242 [some (.ref m), some (.int (zi p)), some (.int (zi a)), some (.int (zi b)), some (.int (zi bt)), some (.int (zi ln)), some (.int (zi zr)), some (.int (zi k2)), none, none] [] hq61 _
                  have sq61 := gSs.tr sq53 xq61 (by decide)
                  have s62 := (xq61.2.2.2.2.2 m 67 (by rw [tm]; decide)).trans s54
                  have s63 := (xq61.2.2.2.2.2 m 64 (by rw [tm]; decide)).trans s55
                  have pr64 := gTk.fr xq61.2 (by decide) (by decide) pr57
                  have pr65 := gRn.fr xq61.2 (by decide) pr58
                  have pr66 := gWa.fr xq61.2 (by decide) hwa60
                  have hre := eeRk_e (sy := (ewS ek1)) (pl := eeN) (lw := bt) (p := p) (fr := a) (tt := b) (k := k2) (cf := cf) (t := sg) (by omega) (by omega) (Int.le_antisymm (by omega) (by omega))
                  rw [← her] at hre
                  have hk67 : eeN er.2.1 er.2.2.1 (ewS ek1 0 er.2.2.2) = eeN er.2.1 wt.toNat (ewS ek1 0 er.2.2.2) := by rw [hwa60e]
                  have hk67_1 : (eeN er.2.1 er.2.2.1 (ewS ek1 0 er.2.2.2)).1 = (eeN er.2.1 wt.toNat (ewS ek1 0 er.2.2.2)).1 := by rw [hk67]
                  have hk67_21 : (eeN er.2.1 er.2.2.1 (ewS ek1 0 er.2.2.2)).2.1 = (eeN er.2.1 wt.toNat (ewS ek1 0 er.2.2.2)).2.1 := by rw [hk67]
                  have hk67_221 : (eeN er.2.1 er.2.2.1 (ewS ek1 0 er.2.2.2)).2.2.1 = (eeN er.2.1 wt.toNat (ewS ek1 0 er.2.2.2)).2.2.1 := by rw [hk67]
                  have hso68 : gSO ty (eeN er.2.1 er.2.2.1 (ewS ek1 0 er.2.2.2)) hq61 := by rw [hk67]; exact yq61_0
                  have hok69 : eeOk (eeN er.2.1 er.2.2.1 (ewS ek1 0 er.2.2.2)) := by rw [hk67]; exact yq61_1
                  have hok69c := hok69.cur
                  have hk70 : eeRz (ewS ek1) eeN bt cf p a b sg = eeN er.2.1 er.2.2.1 (ewS ek1 0 er.2.2.2) := hre.1 (by omega)
                  have hk70_1 : (eeRz (ewS ek1) eeN bt cf p a b sg).1 = (eeN er.2.1 er.2.2.1 (ewS ek1 0 er.2.2.2)).1 := by rw [hk70]
                  have hk70_21 : (eeRz (ewS ek1) eeN bt cf p a b sg).2.1 = (eeN er.2.1 er.2.2.1 (ewS ek1 0 er.2.2.2)).2.1 := by rw [hk70]
                  have hk70_221 : (eeRz (ewS ek1) eeN bt cf p a b sg).2.2.1 = (eeN er.2.1 er.2.2.1 (ewS ek1 0 er.2.2.2)).2.2.1 := by rw [hk70]
                  have hso71 : gSO ty (eeRz (ewS ek1) eeN bt cf p a b sg) hq61 := by rw [hk70]; exact hso68
                  have hok72 : eeOk (eeRz (ewS ek1) eeN bt cf p a b sg) := by rw [hk70]; exact hok69
                  have hok72c := hok72.cur
                  clear hwa60e
                  exact gz_end (I := .return_) (len := 1) rfl (Or.inl rfl) ⟨sq61, fq61_0, fq61_1, fq61_2, rfl, efq61_0, (by omega), (by omega), efq61_1, (by omega), (by omega), efq61_2, (by omega), (by omega), (Int.le_antisymm (by omega) (by omega)), (Int.le_antisymm (by omega) (by omega)), (Int.le_antisymm (by omega) (by omega)), (by omega), (by omega), hso71, hok72⟩
            · refine gy_icF rfl (by decide) (by decide) (by omega) (by omega) hc20 ?_
              refine gy_s 5 (pc' := 77) (L' := [some (.ref m), some (.int (zi p)), some (.int (zi a)), some (.int (zi b)), some (.int (zi bt)), some (.int (zi ln)), some (.int (zi zr)), some (.int (zi k2)), none, none]) (S' := [.int (zi bt), .int ((zi p) + (zi k2)), .ref m]) (L2 := [some (.ref m), some (.int (zi p)), some (.int (zi a)), some (.int (zi b)), some (.int (zi bt)), some (.int (zi ln)), some (.int (zi zr)), some (.int (zi k2)), none, none]) (S2 := [.int (zi bt), .int (zi (p + k2)), .ref m]) rfl (by simp only [zi_add, zi_sub, zi_mul, zi_neg, zi_and1, zi_and7, zi_and15, zi_and31, zi_and255]) (by simp only [zi_add, zi_sub, zi_mul, zi_neg, zi_and1, zi_and7, zi_and15, zi_and31, zi_and255]) ?_
              refine gz_call rfl (by decide) rfl (by decide) (by decide) (gcal_of rfl rfl rfl (Nat.le_of_ble_eq_true rfl) (gJ.recv (G := gGG) sh19.1 tm rfl rfl)) (mw_shifted _ sh19.1 m tm (p + k2) ⟨by omega, by omega⟩ bt rbt mb lp13k1 rmb cf (by omega) uq lp13k7) (fun q73 _ wq73 => ?_)
              obtain ⟨pq73, oq73, hq73⟩ := q73
              obtain ⟨xq73, zq73, gq73, aq73, bq73, uq73_0⟩ := wq73
              refine ⟨_, gq73, ?_⟩
              show gz gPP gGG gcn _ _ 80 [some (.ref m), some (.int (zi p)), some (.int (zi a)), some (.int (zi b)), some (.int (zi bt)), some (.int (zi ln)), some (.int (zi zr)), some (.int (zi k2)), none, none] [.int (zi zq73)] hq73 _
              have sq73 := gSs.tr sh19 xq73 (by decide)
              have s74 := (xq73.2.2.2.2.2 m 67 (by rw [tm]; decide)).trans lp13k0
              have s75 := (xq73.2.2.2.2.2 m 64 (by rw [tm]; decide)).trans lp13k1
              have s76 := (xq73.2.2.2.2.2 m 59 (by rw [tm]; decide)).trans lp13k2
              have s77 := (xq73.2.2.2.2.2 m 61 (by rw [tm]; decide)).trans lp13k3
              have s78 := (xq73.2.2.2.2.2 m 62 (by rw [tm]; decide)).trans lp13k4
              have s79 := (xq73.2.2.2.2.2 m 75 (by rw [tm]; decide)).trans lp13k5
              have pr80 := gTk.fr xq73.2 (by decide) (by decide) lp13k6
              have pr81 := gRn.fr xq73.2 (by decide) lp13k7
              have pr82 := gSO.fr xq73.2 (by decide) lp13k8
              have pr83 := gWa.fr xq73.2 (by decide) lp13k10
              obtain ⟨hA, hAn, hAp⟩ := e_shA uq73_0
              have hzA : eeA zq73 = if zq73 < 0 then -zq73 else zq73 := rfl
              refine gz_s 2 (pc' := 84) (L' := [some (.ref m), some (.int (zi p)), some (.int (zi a)), some (.int (zi b)), some (.int (zi bt)), some (.int (zi ln)), some (.int (zi zr)), some (.int (zi k2)), some (.int (zi zq73)), none]) (S' := [.int (zi zq73)]) rfl ?_
              have jn84 : ∀ (jn84v0 : Int), ((0 ≤ jn84v0) ∧ (jn84v0 ≤ 2048) ∧ (0 ≤ zq73 → jn84v0 = zq73) ∧ (zq73 < 0 → jn84v0 = -zq73)) → gz gPP gGG gcn (d + 3) gt199 95 [some (.ref m), some (.int (zi p)), some (.int (zi a)), some (.int (zi b)), some (.int (zi bt)), some (.int (zi ln)), some (.int (zi zr)), some (.int (zi k2)), some (.int (zi zq73)), none] [.int (zi jn84v0)] hq73 (fun q _ => gSs rT 1027 ty [1059, 1061, 1062, 1075, 32999, 42999] h q.2.2 ∧ ∃ w1 u1 b1 : Int, gfin gt199 q.1 q.2.1 = some none ∧ q.2.2.2.2.2.2 m 59 = .int (zi w1) ∧ 0 ≤ w1 ∧ w1 ≤ 60000 ∧ q.2.2.2.2.2.2 m 61 = .int (zi u1) ∧ 0 ≤ u1 ∧ u1 ≤ 127 ∧ q.2.2.2.2.2.2 m 62 = .int (zi b1) ∧ 0 ≤ b1 ∧ b1 ≤ 7 ∧ (w1 = (eeRz (ewS ek1) eeN bt cf p a b sg).1) ∧ (u1 = (eeRz (ewS ek1) eeN bt cf p a b sg).2.1) ∧ (b1 = (eeRz (ewS ek1) eeN bt cf p a b sg).2.2.1) ∧ (4 * w1 + b1 ≤ 4 * w0 + b0 + (35 * (b - a + 1) + 22)) ∧ (w0 ≤ w1) ∧ (gSO ty (eeRz (ewS ek1) eeN bt cf p a b sg) q.2.2) ∧ (eeOk (eeRz (ewS ek1) eeN bt cf p a b sg))) := by
                intro jn84v0 jn84d
                have hn9 : jn84v0 = eeA (cf (p + k2).toNat) / 2 ^ (bt).toNat := by rw [← hA, hzA]; split <;> omega
                refine gz_s 1 (pc' := 97) (L' := [some (.ref m), some (.int (zi p)), some (.int (zi a)), some (.int (zi b)), some (.int (zi bt)), some (.int (zi ln)), some (.int (zi zr)), some (.int (zi k2)), some (.int (zi zq73)), some (.int (zi jn84v0))]) (S' := []) rfl ?_
                have hk86 : (eeWk (ewS ek1) eeN er zr zr).2.2.2 = er.2.2.2 := by rw [eeWk_0]
                have hk86_1 : ((eeWk (ewS ek1) eeN er zr zr).2.2.2).1 = (er.2.2.2).1 := by rw [hk86]
                have hk86_21 : ((eeWk (ewS ek1) eeN er zr zr).2.2.2).2.1 = (er.2.2.2).2.1 := by rw [hk86]
                have hk86_221 : ((eeWk (ewS ek1) eeN er zr zr).2.2.2).2.2.1 = (er.2.2.2).2.2.1 := by rw [hk86]
                have hso87 : gSO ty ((eeWk (ewS ek1) eeN er zr zr).2.2.2) hq73 := by rw [hk86]; exact pr82
                have hok88 : eeOk ((eeWk (ewS ek1) eeN er zr zr).2.2.2) := by rw [hk86]; exact lp13k9
                have hok88c := hok88.cur
                have hwa89 : gWa ty (eeWk (ewS ek1) eeN er zr zr).2.1 (eeWk (ewS ek1) eeN er zr zr).2.2.1 hq73 := by rw [eeWk_0]; exact pr83
                have lp85 : ∀ (fu : Nat) (h90 : gH) (z2 : Int) (wv2 : Int) (uv2 : Int) (bv2 : Int) (wt2 : Int), (z2 + 1).toNat < fu → gSs rT 1027 ty [1059, 1061, 1062, 1075, 32999, 42999] h h90 → (0 ≤ z2 ∧ z2 ≤ 63) → (0 ≤ wv2 ∧ wv2 ≤ 60000) → (0 ≤ uv2 ∧ uv2 ≤ 127) → (0 ≤ bv2 ∧ bv2 ≤ 7) → (0 ≤ wt2 ∧ wt2 ≤ 64) → (z2 ≤ zr) → ((zr - z2) % 16 = 0) → (z2 = zr ∨ k2 ≤ eeLk bt cf p a b) → (z2 = zr ∨ 0 < jn84v0) → (z2 = (eeWk (ewS ek1) eeN er zr z2).1) → (wt2 = (((eeWk (ewS ek1) eeN er zr z2).2.2.1 : Nat) : Int)) → (wt2 ≤ wt) → (wv2 = ((eeWk (ewS ek1) eeN er zr z2).2.2.2).1) → (uv2 = ((eeWk (ewS ek1) eeN er zr z2).2.2.2).2.1) → (bv2 = ((eeWk (ewS ek1) eeN er zr z2).2.2.2).2.2.1) → (4 * wv2 + bv2 + 35 * z2 + wt2 ≤ 4 * w0 + b0 + 35 * (k2 - a)) → (w0 ≤ wv2) → h90.2.2.2.2 m 67 = .int (zi ic) → h90.2.2.2.2 m 64 = .int (zi mb) → h90.2.2.2.2 m 59 = .int (zi wv2) → h90.2.2.2.2 m 61 = .int (zi uv2) → h90.2.2.2.2 m 62 = .int (zi bv2) → h90.2.2.2.2 m 75 = .int (zi wt2) → gTk (True) 1 ty ek1 h90 → gRn (64 * mb).toNat ty 33 cf h90 → gSO ty ((eeWk (ewS ek1) eeN er zr z2).2.2.2) h90 → eeOk ((eeWk (ewS ek1) eeN er zr z2).2.2.2) → gWa ty ((eeWk (ewS ek1) eeN er zr z2).2.1) ((eeWk (ewS ek1) eeN er zr z2).2.2.1) h90 → gz gPP gGG gcn (d + 3) gt199 97 [some (.ref m), some (.int (zi p)), some (.int (zi a)), some (.int (zi b)), some (.int (zi bt)), some (.int (zi ln)), some (.int (zi z2)), some (.int (zi k2)), some (.int (zi zq73)), some (.int (zi jn84v0))] [] h90 (fun q _ => gSs rT 1027 ty [1059, 1061, 1062, 1075, 32999, 42999] h q.2.2 ∧ ∃ w1 u1 b1 : Int, gfin gt199 q.1 q.2.1 = some none ∧ q.2.2.2.2.2.2 m 59 = .int (zi w1) ∧ 0 ≤ w1 ∧ w1 ≤ 60000 ∧ q.2.2.2.2.2.2 m 61 = .int (zi u1) ∧ 0 ≤ u1 ∧ u1 ≤ 127 ∧ q.2.2.2.2.2.2 m 62 = .int (zi b1) ∧ 0 ≤ b1 ∧ b1 ≤ 7 ∧ (w1 = (eeRz (ewS ek1) eeN bt cf p a b sg).1) ∧ (u1 = (eeRz (ewS ek1) eeN bt cf p a b sg).2.1) ∧ (b1 = (eeRz (ewS ek1) eeN bt cf p a b sg).2.2.1) ∧ (4 * w1 + b1 ≤ 4 * w0 + b0 + (35 * (b - a + 1) + 22)) ∧ (w0 ≤ w1) ∧ (gSO ty (eeRz (ewS ek1) eeN bt cf p a b sg) q.2.2) ∧ (eeOk (eeRz (ewS ek1) eeN bt cf p a b sg))) := by
                  intro fu
                  induction fu with
                  | zero => intro h90 z2 wv2 uv2 bv2 wt2 hm; exact absurd hm (Nat.not_lt_zero _)
                  | succ fu ihlp85 =>
                    intro h90 z2 wv2 uv2 bv2 wt2 lp85m sh90 lp85f0 lp85f1 lp85f2 lp85f3 lp85f4 lp85f5 lp85f6 lp85f7 lp85f8 lp85f9 lp85f10 lp85f11 lp85f12 lp85f13 lp85f14 lp85f15 lp85f16 lp85k0 lp85k1 lp85k2 lp85k3 lp85k4 lp85k5 lp85k6 lp85k7 lp85k8 lp85k9 lp85k10
                    obtain ⟨ew, hew⟩ : ∃ x9 : Int × Int × Nat × gWt, x9 = eeWk (ewS ek1) eeN er zr z2 := ⟨_, rfl⟩
                    rw [← hew] at lp85f9 lp85f10 lp85f12 lp85f13 lp85f14 lp85k8 lp85k9 lp85k10
                    clear lp13f2 lp13f3 lp13f4 lp13f11 lp13f12 lp13f13 lp13f14 lp13f15 hk86_1 hk86_21 hk86_221 hok88c
                    refine gz_s 1 (pc' := 99) (L' := [some (.ref m), some (.int (zi p)), some (.int (zi a)), some (.int (zi b)), some (.int (zi bt)), some (.int (zi ln)), some (.int (zi z2)), some (.int (zi k2)), some (.int (zi zq73)), some (.int (zi jn84v0))]) (S' := [.int (zi jn84v0)]) rfl ?_
                    by_cases hc91 : (jn84v0 : Int) ≤ 0
                    · refine gy_ifT (pc' := 138) rfl (by decide) (by decide) (by omega) hc91 ?_
                      refine gz_s 1 (pc' := 140) (L' := [some (.ref m), some (.int (zi p)), some (.int (zi a)), some (.int (zi b)), some (.int (zi bt)), some (.int (zi ln)), some (.int (zi z2)), some (.int (zi k2)), some (.int (zi zq73)), some (.int (zi jn84v0))]) (S' := [.int (zi jn84v0)]) rfl ?_
                      refine gy_ifF rfl (by decide) (by decide) (by omega) (by first | (simp [zc]; done) | (simp only [zc]; omega)) ?_
                      refine gy_s 2 (pc' := 214) (L' := [some (.ref m), some (.int (zi p)), some (.int (zi a)), some (.int (zi b)), some (.int (zi bt)), some (.int (zi ln)), some (.int ((zi z2) + zi 1)), some (.int (zi k2)), some (.int (zi zq73)), some (.int (zi jn84v0))]) (S' := []) (L2 := [some (.ref m), some (.int (zi p)), some (.int (zi a)), some (.int (zi b)), some (.int (zi bt)), some (.int (zi ln)), some (.int (zi (z2 + 1))), some (.int (zi k2)), some (.int (zi zq73)), some (.int (zi jn84v0))]) (S2 := []) rfl (by simp only [zi_add, zi_sub, zi_mul, zi_neg, zi_and1, zi_and7, zi_and15, zi_and31, zi_and255]) (by simp only [zi_add, zi_sub, zi_mul, zi_neg, zi_and1, zi_and7, zi_and15, zi_and31, zi_and255]) ?_
                      have hz2r : z2 = zr := lp85f8.elim id (fun w => absurd w (by omega))
                      have hw0 : ew = er := by rw [hew, hz2r]; exact eeWk_0
                      have hk92 : er.2.2.2 = ew.2.2.2 := by rw [hw0]
                      have hk92_1 : (er.2.2.2).1 = (ew.2.2.2).1 := by rw [hk92]
                      have hk92_21 : (er.2.2.2).2.1 = (ew.2.2.2).2.1 := by rw [hk92]
                      have hk92_221 : (er.2.2.2).2.2.1 = (ew.2.2.2).2.2.1 := by rw [hk92]
                      have hso93 : gSO ty er.2.2.2 h90 := by rw [hk92]; exact lp85k8
                      have hok94 : eeOk er.2.2.2 := by rw [hk92]; exact lp85k9
                      have hok94c := hok94.cur
                      have hwa9 : gWa ty er.2.1 er.2.2.1 h90 := by have e9 := lp85k10; rw [hw0] at e9; exact e9
                      have hw9 : ew.2.2.1 = er.2.2.1 := by rw [hw0]
                      have hR : eeRk (ewS ek1) eeN bt cf p a b sg (k2 + 1) = (z2 + 1, er.2.1, er.2.2.1, er.2.2.2) := by rw [eeRk_z (by omega) (by omega) (by omega) rfl (hn9.symm.trans (Int.le_antisymm (by omega) (by omega))), ← her]; rw [← lp13f6, ← hz2r]
                      have hR_1 : (eeRk (ewS ek1) eeN bt cf p a b sg (k2 + 1)).1 = z2 + 1 := by rw [hR]
                      have hR_21 : (eeRk (ewS ek1) eeN bt cf p a b sg (k2 + 1)).2.1 = er.2.1 := by rw [hR]
                      have hR_221 : (eeRk (ewS ek1) eeN bt cf p a b sg (k2 + 1)).2.2.1 = er.2.2.1 := by rw [hR]
                      have hk95 : (eeRk (ewS ek1) eeN bt cf p a b sg (k2 + 1)).2.2.2 = er.2.2.2 := by rw [hR]
                      have hk95_1 : ((eeRk (ewS ek1) eeN bt cf p a b sg (k2 + 1)).2.2.2).1 = (er.2.2.2).1 := by rw [hk95]
                      have hk95_21 : ((eeRk (ewS ek1) eeN bt cf p a b sg (k2 + 1)).2.2.2).2.1 = (er.2.2.2).2.1 := by rw [hk95]
                      have hk95_221 : ((eeRk (ewS ek1) eeN bt cf p a b sg (k2 + 1)).2.2.2).2.2.1 = (er.2.2.2).2.2.1 := by rw [hk95]
                      have hso96 : gSO ty ((eeRk (ewS ek1) eeN bt cf p a b sg (k2 + 1)).2.2.2) h90 := by rw [hk95]; exact hso93
                      have hok97 : eeOk ((eeRk (ewS ek1) eeN bt cf p a b sg (k2 + 1)).2.2.2) := by rw [hk95]; exact hok94
                      have hok97c := hok97.cur
                      have hwa98 : gWa ty (eeRk (ewS ek1) eeN bt cf p a b sg (k2 + 1)).2.1 (eeRk (ewS ek1) eeN bt cf p a b sg (k2 + 1)).2.2.1 h90 := by rw [hR]; exact hwa9
                      refine gy_s 2 (pc' := 64) (L' := [some (.ref m), some (.int (zi p)), some (.int (zi a)), some (.int (zi b)), some (.int (zi bt)), some (.int (zi ln)), some (.int (zi (z2 + 1))), some (.int ((zi k2) + zi 1)), some (.int (zi zq73)), some (.int (zi jn84v0))]) (S' := []) (L2 := [some (.ref m), some (.int (zi p)), some (.int (zi a)), some (.int (zi b)), some (.int (zi bt)), some (.int (zi ln)), some (.int (zi (z2 + 1))), some (.int (zi (k2 + 1))), some (.int (zi zq73)), some (.int (zi jn84v0))]) (S2 := []) rfl (by simp only [zi_add, zi_sub, zi_mul, zi_neg, zi_and1, zi_and7, zi_and15, zi_and31, zi_and255]) (by simp only [zi_add, zi_sub, zi_mul, zi_neg, zi_and1, zi_and7, zi_and15, zi_and31, zi_and255]) ?_
                      clear hAn hAp hzA jn84d lp85f7 lp85f8
                      exact gz_wk (ihlp13 h90 (z2 + 1) (k2 + 1) wv2 uv2 bv2 wt2 (gms lp13m (by omega) (by omega)) sh90 ⟨by omega, by omega⟩ ⟨by omega, by omega⟩ lp85f1 lp85f2 lp85f3 lp85f4 (Int.le_antisymm (by omega) (by omega)) (Int.le_antisymm (by omega) (by omega)) (by omega) (by omega) (by omega) (Int.le_antisymm (by omega) (by omega)) (Int.le_antisymm (by omega) (by omega)) (Int.le_antisymm (by omega) (by omega)) (by omega) (by omega) lp85k0 lp85k1 lp85k2 lp85k3 lp85k4 lp85k5 lp85k6 lp85k7 hso96 hok97 hwa98) (gLw.s (gLw.s (gLw.s (gLw.s (gLw.s (gLw.s (gLw.s (gLw.s (gLw.n (gLw.n gLw.z))))))))))
                    · refine gy_ifF rfl (by decide) (by decide) (by omega) hc91 ?_
                      refine gz_s 2 (pc' := 106) (L' := [some (.ref m), some (.int (zi p)), some (.int (zi a)), some (.int (zi b)), some (.int (zi bt)), some (.int (zi ln)), some (.int (zi z2)), some (.int (zi k2)), some (.int (zi zq73)), some (.int (zi jn84v0))]) (S' := [.int (zi 15), .int (zi z2)]) rfl ?_
                      by_cases hc99 : (z2 : Int) ≤ 15
                      · refine gy_icT (pc' := 138) rfl (by decide) (by decide) (by omega) (by omega) hc99 ?_
                        refine gz_s 1 (pc' := 140) (L' := [some (.ref m), some (.int (zi p)), some (.int (zi a)), some (.int (zi b)), some (.int (zi bt)), some (.int (zi ln)), some (.int (zi z2)), some (.int (zi k2)), some (.int (zi zq73)), some (.int (zi jn84v0))]) (S' := [.int (zi jn84v0)]) rfl ?_
                        refine gy_ifT (pc' := 149) rfl (by decide) (by decide) (by omega) (by first | (simp [zc]; done) | (simp only [zc]; omega)) ?_
                        refine gz_s 2 (pc' := 152) (L' := [some (.ref m), some (.int (zi p)), some (.int (zi a)), some (.int (zi b)), some (.int (zi bt)), some (.int (zi ln)), some (.int (zi z2)), some (.int (zi k2)), some (.int (zi zq73)), some (.int (zi jn84v0))]) (S' := [.int (zi 1), .int (zi jn84v0)]) rfl ?_
                        by_cases hc100 : (jn84v0 : Int) ≤ 1
                        · refine gy_icT (pc' := 181) rfl (by decide) (by decide) (by omega) (by omega) hc100 ?_
                          have h19 : jn84v0 = 1 := Int.le_antisymm (by omega) (by omega)
                          have hk9 : k2 ≤ eeLk bt cf p a b := eeLk_1 (by omega) (by omega) (by omega) (by omega) rfl (hn9.symm.trans h19)
                          have hm9 := e_hm (hlq k2 (by omega)) lp85f7 lp85f6 (by omega)
                          have hz15 : z2 ≤ 15 := hm9.elim (fun w => w.2.1) (fun w => absurd hk9 w.1)
                          have hs9 : (16 * z2) + 1 = 16 * (z2 % 16) + 1 := by rw [Int.emod_eq_of_lt (by omega) (by omega)]
                          have hRv : ∀ V9 : Int, (V9 = if cf (p + k2).toNat < 0 then 0 else 1) → V9 = V9 % 2 → eeRk (ewS ek1) eeN bt cf p a b sg (k2 + 1) = (0, ew.2.1, 0, eeN ew.2.1 ew.2.2.1 (eeb (ewS ek1 ((16 * z2) + 1) ew.2.2.2) V9)) := fun V9 e8 e9 => eeRk_1w (ek := ek1) (lw := bt) (p := p) (fr := a) (tt := b) (k := k2) (cf := cf) (g := sg) (v := cf (p + k2).toNat) (a := jn84v0) (s := (16 * z2) + 1) (V := V9) (x := zr) (y := z2) (er := er) (ew := ew) her hew (by omega) (by omega) (by omega) rfl hn9 h19 lp13f6 ⟨by omega, by omega⟩ hm9 lp85f9 hs9 e8 e9
                          clear hm9 hs9 lp85f7 lp85f8
                          refine gy_s 7 (pc' := 190) (L' := [some (.ref m), some (.int (zi p)), some (.int (zi a)), some (.int (zi b)), some (.int (zi bt)), some (.int (zi ln)), some (.int (zi z2)), some (.int (zi k2)), some (.int (zi zq73)), some (.int (zi jn84v0))]) (S' := [.int (((zi 16) * (zi z2)) + (zi 1)), .int (zi 1), .ref m]) (L2 := [some (.ref m), some (.int (zi p)), some (.int (zi a)), some (.int (zi b)), some (.int (zi bt)), some (.int (zi ln)), some (.int (zi z2)), some (.int (zi k2)), some (.int (zi zq73)), some (.int (zi jn84v0))]) (S2 := [.int (zi ((16 * z2) + 1)), .int (zi 1), .ref m]) rfl (by simp only [zi_add, zi_sub, zi_mul, zi_neg, zi_and1, zi_and7, zi_and15, zi_and31, zi_and255]) (by simp only [zi_add, zi_sub, zi_mul, zi_neg, zi_and1, zi_and7, zi_and15, zi_and31, zi_and255]) ?_
                          refine gz_call rfl (by decide) rfl (by decide) (by decide) (gcal_of rfl rfl rfl (Nat.le_of_ble_eq_true rfl) (gJ.recv (G := gGG) sh90.1 tm rfl rfl)) (mw_putSymbol1 _ sh90.1 m tm 1 ⟨by omega, by omega⟩ ((16 * z2) + 1) ⟨by omega, by omega⟩ wv2 lp85k2 lp85f1 uv2 lp85k3 lp85f2 bv2 lp85k4 lp85f3 ic lp85k0 ric ew.2.2.2 ek1 (Int.le_antisymm (by omega) (by omega)) (Int.le_antisymm (by omega) (by omega)) (Int.le_antisymm (by omega) (by omega)) (by omega) uq lp85k8 lp85k9 lp85k6) (fun q101 _ wq101 => ?_)
                          obtain ⟨pq101, oq101, hq101⟩ := q101
                          obtain ⟨xq101, fq101_0, fq101_1, fq101_2, gq101, efq101_0, afq101_0, bfq101_0, efq101_1, afq101_1, bfq101_1, efq101_2, afq101_2, bfq101_2, uq101_0, uq101_1, uq101_2, uq101_3, uq101_4, yq101_0, yq101_1⟩ := wq101
                          have ch101a := ch_a lp85f15 uq101_3
                          have ch101b := Int.le_trans lp85f16 uq101_4
                          clear lp85f15 lp85f16 uq101_3 uq101_4 lp85f1 lp85f2 lp85f3 lp85f12 lp85f13 lp85f14
                          refine ⟨_, gq101, ?_⟩
                          show gz gPP gGG gcn _ _ 193 [some (.ref m), some (.int (zi p)), some (.int (zi a)), some (.int (zi b)), some (.int (zi bt)), some (.int (zi ln)), some (.int (zi z2)), some (.int (zi k2)), some (.int (zi zq73)), some (.int (zi jn84v0))] [] hq101 _
                          have sq101 := gSs.tr sh90 xq101 (by decide)
                          have s102 := (xq101.2.2.2.2.2 m 67 (by rw [tm]; decide)).trans lp85k0
                          have s103 := (xq101.2.2.2.2.2 m 64 (by rw [tm]; decide)).trans lp85k1
                          have s104 := (xq101.2.2.2.2.2 m 75 (by rw [tm]; decide)).trans lp85k5
                          have pr105 := gTk.fr xq101.2 (by decide) (by decide) lp85k6
                          have pr106 := gRn.fr xq101.2 (by decide) lp85k7
                          have pr107 := gWa.fr xq101.2 (by decide) lp85k10
                          refine gz_s 2 (pc' := 196) (L' := [some (.ref m), some (.int (zi p)), some (.int (zi a)), some (.int (zi b)), some (.int (zi bt)), some (.int (zi ln)), some (.int (zi z2)), some (.int (zi k2)), some (.int (zi zq73)), some (.int (zi jn84v0))]) (S' := [.int (zi zq73), .ref m]) rfl ?_
                          by_cases hc108 : (zq73 : Int) ≤ 0
                          · refine gy_ifT (pc' := 203) rfl (by decide) (by decide) (by omega) hc108 ?_
                            refine gz_s 1 (pc' := 204) (L' := [some (.ref m), some (.int (zi p)), some (.int (zi a)), some (.int (zi b)), some (.int (zi bt)), some (.int (zi ln)), some (.int (zi z2)), some (.int (zi k2)), some (.int (zi zq73)), some (.int (zi jn84v0))]) (S' := [.int (zi 0), .ref m]) rfl ?_
                            have hzn : zq73 < 0 := (Int.lt_or_le zq73 0).elim id (fun w => absurd (jn84d.2.2.1 w) (by omega))
                            have hcv := hAn hzn
                            refine gz_call rfl (by decide) rfl (by decide) (by decide) (gcal_of rfl rfl rfl (Nat.le_of_ble_eq_true rfl) (gJ.recv (G := gGG) sq101.1 tm rfl rfl)) (mw_putBit _ sq101.1 m tm 0 ⟨by omega, by omega⟩ fq101_0 efq101_0 ⟨afq101_0, bfq101_0⟩ fq101_1 efq101_1 ⟨afq101_1, bfq101_1⟩ fq101_2 efq101_2 ⟨afq101_2, bfq101_2⟩ ic s102 ric (ewS ek1 ((16 * z2) + 1) ew.2.2.2) (Int.le_antisymm (by omega) (by omega)) (Int.le_antisymm (by omega) (by omega)) (Int.le_antisymm (by omega) (by omega)) (by omega) uq yq101_0 yq101_1) (fun q109 _ wq109 => ?_)
                            obtain ⟨pq109, oq109, hq109⟩ := q109
                            obtain ⟨xq109, fq109_0, fq109_1, fq109_2, gq109, efq109_0, afq109_0, bfq109_0, efq109_1, afq109_1, bfq109_1, efq109_2, afq109_2, bfq109_2, uq109_0, uq109_1, uq109_2, uq109_3, uq109_4, yq109_0, yq109_1⟩ := wq109
                            have ch109a := ch_a ch101a uq109_3
                            have ch109b := Int.le_trans ch101b uq109_4
                            clear ch101a ch101b uq109_3 uq109_4 afq101_0 bfq101_0 afq101_1 bfq101_1 afq101_2 bfq101_2 uq101_0 uq101_1 uq101_2
                            refine ⟨_, gq109, ?_⟩
                            show gz gPP gGG gcn _ _ 207 [some (.ref m), some (.int (zi p)), some (.int (zi a)), some (.int (zi b)), some (.int (zi bt)), some (.int (zi ln)), some (.int (zi z2)), some (.int (zi k2)), some (.int (zi zq73)), some (.int (zi jn84v0))] [] hq109 _
                            have sq109 := gSs.tr sq101 xq109 (by decide)
                            have s110 := (xq109.2.2.2.2.2 m 67 (by rw [tm]; decide)).trans s102
                            have s111 := (xq109.2.2.2.2.2 m 64 (by rw [tm]; decide)).trans s103
                            have s112 := (xq109.2.2.2.2.2 m 75 (by rw [tm]; decide)).trans s104
                            have pr113 := gTk.fr xq109.2 (by decide) (by decide) pr105
                            have pr114 := gRn.fr xq109.2 (by decide) pr106
                            have pr115 := gWa.fr xq109.2 (by decide) pr107
                            have hwa116e : (wt2).toNat = ew.2.2.1 := (congrArg Int.toNat lp85f10).trans (Int.toNat_natCast _)
                            have hwa116 : gWa ty ew.2.1 (wt2).toNat hq109 := by rw [hwa116e]; exact pr115
                            refine gz_s 1 (pc' := 208) (L' := [some (.ref m), some (.int (zi p)), some (.int (zi a)), some (.int (zi b)), some (.int (zi bt)), some (.int (zi ln)), some (.int (zi z2)), some (.int (zi k2)), some (.int (zi zq73)), some (.int (zi jn84v0))]) (S' := [.ref m]) rfl ?_
                            refine gz_call rfl (by decide) rfl (by decide) (by decide) (gcal_of rfl rfl rfl (Nat.le_of_ble_eq_true rfl) (gJ.recv (G := gGG) sq109.1 tm rfl rfl)) (mw_putWaiting _ sq109.1 m tm fq109_0 efq109_0 ⟨afq109_0, bfq109_0⟩ fq109_1 efq109_1 ⟨afq109_1, bfq109_1⟩ fq109_2 efq109_2 ⟨afq109_2, bfq109_2⟩ ic s110 ric wt2 s112 lp85f4 (eeb (ewS ek1 ((16 * z2) + 1) ew.2.2.2) 0) ew.2.1 (Int.le_antisymm (by omega) (by omega)) (Int.le_antisymm (by omega) (by omega)) (Int.le_antisymm (by omega) (by omega)) (by omega) uq yq109_0 yq109_1 hwa116) (fun q117 _ wq117 => ?_)
                            obtain ⟨pq117, oq117, hq117⟩ := q117
                            obtain ⟨xq117, fq117_0, fq117_1, fq117_2, fq117_3, gq117, efq117_0, afq117_0, bfq117_0, efq117_1, afq117_1, bfq117_1, efq117_2, afq117_2, bfq117_2, efq117_3, afq117_3, bfq117_3, uq117_0, uq117_1, uq117_2, uq117_3, uq117_4, uq117_5, yq117_0, yq117_1, yq117_2⟩ := wq117
                            have ch117a := ch_a ch109a uq117_3
                            have ch117b := Int.le_trans ch109b uq117_4
                            clear ch109a ch109b uq117_3 uq117_4 afq109_0 bfq109_0 afq109_1 bfq109_1 afq109_2 bfq109_2 uq109_0 uq109_1 uq109_2
                            refine ⟨_, gq117, ?_⟩
                            show gz gPP gGG gcn _ _ 211 [some (.ref m), some (.int (zi p)), some (.int (zi a)), some (.int (zi b)), some (.int (zi bt)), some (.int (zi ln)), some (.int (zi z2)), some (.int (zi k2)), some (.int (zi zq73)), some (.int (zi jn84v0))] [] hq117 _
                            have sq117 := gSs.tr sq109 xq117 (by decide)
                            have s118 := (xq117.2.2.2.2.2 m 67 (by rw [tm]; decide)).trans s110
                            have s119 := (xq117.2.2.2.2.2 m 64 (by rw [tm]; decide)).trans s111
                            have pr120 := gTk.fr xq117.2 (by decide) (by decide) pr113
                            have pr121 := gRn.fr xq117.2 (by decide) pr114
                            have pr122 := gWa.fr xq117.2 (by decide) hwa116
                            have hk123 : eeN ew.2.1 ew.2.2.1 (eeb (ewS ek1 ((16 * z2) + 1) ew.2.2.2) 0) = eeN ew.2.1 wt2.toNat (eeb (ewS ek1 ((16 * z2) + 1) ew.2.2.2) 0) := by rw [hwa116e]
                            have hk123_1 : (eeN ew.2.1 ew.2.2.1 (eeb (ewS ek1 ((16 * z2) + 1) ew.2.2.2) 0)).1 = (eeN ew.2.1 wt2.toNat (eeb (ewS ek1 ((16 * z2) + 1) ew.2.2.2) 0)).1 := by rw [hk123]
                            have hk123_21 : (eeN ew.2.1 ew.2.2.1 (eeb (ewS ek1 ((16 * z2) + 1) ew.2.2.2) 0)).2.1 = (eeN ew.2.1 wt2.toNat (eeb (ewS ek1 ((16 * z2) + 1) ew.2.2.2) 0)).2.1 := by rw [hk123]
                            have hk123_221 : (eeN ew.2.1 ew.2.2.1 (eeb (ewS ek1 ((16 * z2) + 1) ew.2.2.2) 0)).2.2.1 = (eeN ew.2.1 wt2.toNat (eeb (ewS ek1 ((16 * z2) + 1) ew.2.2.2) 0)).2.2.1 := by rw [hk123]
                            have hso124 : gSO ty (eeN ew.2.1 ew.2.2.1 (eeb (ewS ek1 ((16 * z2) + 1) ew.2.2.2) 0)) hq117 := by rw [hk123]; exact yq117_0
                            have hok125 : eeOk (eeN ew.2.1 ew.2.2.1 (eeb (ewS ek1 ((16 * z2) + 1) ew.2.2.2) 0)) := by rw [hk123]; exact yq117_1
                            have hok125c := hok125.cur
                            refine gz_s 2 (pc' := 214) (L' := [some (.ref m), some (.int (zi p)), some (.int (zi a)), some (.int (zi b)), some (.int (zi bt)), some (.int (zi ln)), some (.int (zi 0)), some (.int (zi k2)), some (.int (zi zq73)), some (.int (zi jn84v0))]) (S' := []) rfl ?_
                            have hR : eeRk (ewS ek1) eeN bt cf p a b sg (k2 + 1) = (0, ew.2.1, 0, eeN ew.2.1 ew.2.2.1 (eeb (ewS ek1 ((16 * z2) + 1) ew.2.2.2) 0)) := hRv 0 (if_pos hcv).symm (by decide)
                            have hR_1 : (eeRk (ewS ek1) eeN bt cf p a b sg (k2 + 1)).1 = 0 := by rw [hR]
                            have hR_21 : (eeRk (ewS ek1) eeN bt cf p a b sg (k2 + 1)).2.1 = ew.2.1 := by rw [hR]
                            have hR_221 : (eeRk (ewS ek1) eeN bt cf p a b sg (k2 + 1)).2.2.1 = 0 := by rw [hR]
                            have hk126 : (eeRk (ewS ek1) eeN bt cf p a b sg (k2 + 1)).2.2.2 = eeN ew.2.1 ew.2.2.1 (eeb (ewS ek1 ((16 * z2) + 1) ew.2.2.2) 0) := by rw [hR]
                            have hk126_1 : ((eeRk (ewS ek1) eeN bt cf p a b sg (k2 + 1)).2.2.2).1 = (eeN ew.2.1 ew.2.2.1 (eeb (ewS ek1 ((16 * z2) + 1) ew.2.2.2) 0)).1 := by rw [hk126]
                            have hk126_21 : ((eeRk (ewS ek1) eeN bt cf p a b sg (k2 + 1)).2.2.2).2.1 = (eeN ew.2.1 ew.2.2.1 (eeb (ewS ek1 ((16 * z2) + 1) ew.2.2.2) 0)).2.1 := by rw [hk126]
                            have hk126_221 : ((eeRk (ewS ek1) eeN bt cf p a b sg (k2 + 1)).2.2.2).2.2.1 = (eeN ew.2.1 ew.2.2.1 (eeb (ewS ek1 ((16 * z2) + 1) ew.2.2.2) 0)).2.2.1 := by rw [hk126]
                            have hso127 : gSO ty ((eeRk (ewS ek1) eeN bt cf p a b sg (k2 + 1)).2.2.2) hq117 := by rw [hk126]; exact hso124
                            have hok128 : eeOk ((eeRk (ewS ek1) eeN bt cf p a b sg (k2 + 1)).2.2.2) := by rw [hk126]; exact hok125
                            have hok128c := hok128.cur
                            have hwa129 : gWa ty (eeRk (ewS ek1) eeN bt cf p a b sg (k2 + 1)).2.1 (eeRk (ewS ek1) eeN bt cf p a b sg (k2 + 1)).2.2.1 hq117 := by rw [hR]; exact yq117_2
                            refine gy_s 2 (pc' := 64) (L' := [some (.ref m), some (.int (zi p)), some (.int (zi a)), some (.int (zi b)), some (.int (zi bt)), some (.int (zi ln)), some (.int (zi 0)), some (.int ((zi k2) + zi 1)), some (.int (zi zq73)), some (.int (zi jn84v0))]) (S' := []) (L2 := [some (.ref m), some (.int (zi p)), some (.int (zi a)), some (.int (zi b)), some (.int (zi bt)), some (.int (zi ln)), some (.int (zi 0)), some (.int (zi (k2 + 1))), some (.int (zi zq73)), some (.int (zi jn84v0))]) (S2 := []) rfl (by simp only [zi_add, zi_sub, zi_mul, zi_neg, zi_and1, zi_and7, zi_and15, zi_and31, zi_and255]) (by simp only [zi_add, zi_sub, zi_mul, zi_neg, zi_and1, zi_and7, zi_and15, zi_and31, zi_and255]) ?_
                            clear hAn hAp hzA jn84d hwa116e
                            exact gz_wk (ihlp13 hq117 0 (k2 + 1) fq117_0 fq117_1 fq117_2 fq117_3 (gms lp13m (by omega) (by omega)) sq117 ⟨by omega, by omega⟩ ⟨by omega, by omega⟩ ⟨afq117_0, bfq117_0⟩ ⟨afq117_1, bfq117_1⟩ ⟨afq117_2, bfq117_2⟩ ⟨afq117_3, bfq117_3⟩ (Int.le_antisymm (by omega) (by omega)) (Int.le_antisymm (by omega) (by omega)) (by omega) (by omega) (by omega) (Int.le_antisymm (by omega) (by omega)) (Int.le_antisymm (by omega) (by omega)) (Int.le_antisymm (by omega) (by omega)) (by omega) (by omega) s118 s119 efq117_0 efq117_1 efq117_2 efq117_3 pr120 pr121 hso127 hok128 hwa129) (gLw.s (gLw.s (gLw.s (gLw.s (gLw.s (gLw.s (gLw.s (gLw.s (gLw.n (gLw.n gLw.z))))))))))
                          · refine gy_ifF rfl (by decide) (by decide) (by omega) hc108 ?_
                            refine gz_s 2 (pc' := 204) (L' := [some (.ref m), some (.int (zi p)), some (.int (zi a)), some (.int (zi b)), some (.int (zi bt)), some (.int (zi ln)), some (.int (zi z2)), some (.int (zi k2)), some (.int (zi zq73)), some (.int (zi jn84v0))]) (S' := [.int (zi 1), .ref m]) rfl ?_
                            have hcv := hAp (by omega : 0 < zq73)
                            refine gz_call rfl (by decide) rfl (by decide) (by decide) (gcal_of rfl rfl rfl (Nat.le_of_ble_eq_true rfl) (gJ.recv (G := gGG) sq101.1 tm rfl rfl)) (mw_putBit _ sq101.1 m tm 1 ⟨by omega, by omega⟩ fq101_0 efq101_0 ⟨afq101_0, bfq101_0⟩ fq101_1 efq101_1 ⟨afq101_1, bfq101_1⟩ fq101_2 efq101_2 ⟨afq101_2, bfq101_2⟩ ic s102 ric (ewS ek1 ((16 * z2) + 1) ew.2.2.2) (Int.le_antisymm (by omega) (by omega)) (Int.le_antisymm (by omega) (by omega)) (Int.le_antisymm (by omega) (by omega)) (by omega) uq yq101_0 yq101_1) (fun q130 _ wq130 => ?_)
                            obtain ⟨pq130, oq130, hq130⟩ := q130
                            obtain ⟨xq130, fq130_0, fq130_1, fq130_2, gq130, efq130_0, afq130_0, bfq130_0, efq130_1, afq130_1, bfq130_1, efq130_2, afq130_2, bfq130_2, uq130_0, uq130_1, uq130_2, uq130_3, uq130_4, yq130_0, yq130_1⟩ := wq130
                            have ch130a := ch_a ch101a uq130_3
                            have ch130b := Int.le_trans ch101b uq130_4
                            clear ch101a ch101b uq130_3 uq130_4 afq101_0 bfq101_0 afq101_1 bfq101_1 afq101_2 bfq101_2 uq101_0 uq101_1 uq101_2
                            refine ⟨_, gq130, ?_⟩
                            show gz gPP gGG gcn _ _ 207 [some (.ref m), some (.int (zi p)), some (.int (zi a)), some (.int (zi b)), some (.int (zi bt)), some (.int (zi ln)), some (.int (zi z2)), some (.int (zi k2)), some (.int (zi zq73)), some (.int (zi jn84v0))] [] hq130 _
                            have sq130 := gSs.tr sq101 xq130 (by decide)
                            have s131 := (xq130.2.2.2.2.2 m 67 (by rw [tm]; decide)).trans s102
                            have s132 := (xq130.2.2.2.2.2 m 64 (by rw [tm]; decide)).trans s103
                            have s133 := (xq130.2.2.2.2.2 m 75 (by rw [tm]; decide)).trans s104
                            have pr134 := gTk.fr xq130.2 (by decide) (by decide) pr105
                            have pr135 := gRn.fr xq130.2 (by decide) pr106
                            have pr136 := gWa.fr xq130.2 (by decide) pr107
                            have hwa137e : (wt2).toNat = ew.2.2.1 := (congrArg Int.toNat lp85f10).trans (Int.toNat_natCast _)
                            have hwa137 : gWa ty ew.2.1 (wt2).toNat hq130 := by rw [hwa137e]; exact pr136
                            refine gz_s 1 (pc' := 208) (L' := [some (.ref m), some (.int (zi p)), some (.int (zi a)), some (.int (zi b)), some (.int (zi bt)), some (.int (zi ln)), some (.int (zi z2)), some (.int (zi k2)), some (.int (zi zq73)), some (.int (zi jn84v0))]) (S' := [.ref m]) rfl ?_
                            refine gz_call rfl (by decide) rfl (by decide) (by decide) (gcal_of rfl rfl rfl (Nat.le_of_ble_eq_true rfl) (gJ.recv (G := gGG) sq130.1 tm rfl rfl)) (mw_putWaiting _ sq130.1 m tm fq130_0 efq130_0 ⟨afq130_0, bfq130_0⟩ fq130_1 efq130_1 ⟨afq130_1, bfq130_1⟩ fq130_2 efq130_2 ⟨afq130_2, bfq130_2⟩ ic s131 ric wt2 s133 lp85f4 (eeb (ewS ek1 ((16 * z2) + 1) ew.2.2.2) 1) ew.2.1 (Int.le_antisymm (by omega) (by omega)) (Int.le_antisymm (by omega) (by omega)) (Int.le_antisymm (by omega) (by omega)) (by omega) uq yq130_0 yq130_1 hwa137) (fun q138 _ wq138 => ?_)
                            obtain ⟨pq138, oq138, hq138⟩ := q138
                            obtain ⟨xq138, fq138_0, fq138_1, fq138_2, fq138_3, gq138, efq138_0, afq138_0, bfq138_0, efq138_1, afq138_1, bfq138_1, efq138_2, afq138_2, bfq138_2, efq138_3, afq138_3, bfq138_3, uq138_0, uq138_1, uq138_2, uq138_3, uq138_4, uq138_5, yq138_0, yq138_1, yq138_2⟩ := wq138
                            have ch138a := ch_a ch130a uq138_3
                            have ch138b := Int.le_trans ch130b uq138_4
                            clear ch130a ch130b uq138_3 uq138_4 afq130_0 bfq130_0 afq130_1 bfq130_1 afq130_2 bfq130_2 uq130_0 uq130_1 uq130_2
                            refine ⟨_, gq138, ?_⟩
                            show gz gPP gGG gcn _ _ 211 [some (.ref m), some (.int (zi p)), some (.int (zi a)), some (.int (zi b)), some (.int (zi bt)), some (.int (zi ln)), some (.int (zi z2)), some (.int (zi k2)), some (.int (zi zq73)), some (.int (zi jn84v0))] [] hq138 _
                            have sq138 := gSs.tr sq130 xq138 (by decide)
                            have s139 := (xq138.2.2.2.2.2 m 67 (by rw [tm]; decide)).trans s131
                            have s140 := (xq138.2.2.2.2.2 m 64 (by rw [tm]; decide)).trans s132
                            have pr141 := gTk.fr xq138.2 (by decide) (by decide) pr134
                            have pr142 := gRn.fr xq138.2 (by decide) pr135
                            have pr143 := gWa.fr xq138.2 (by decide) hwa137
                            have hk144 : eeN ew.2.1 ew.2.2.1 (eeb (ewS ek1 ((16 * z2) + 1) ew.2.2.2) 1) = eeN ew.2.1 wt2.toNat (eeb (ewS ek1 ((16 * z2) + 1) ew.2.2.2) 1) := by rw [hwa137e]
                            have hk144_1 : (eeN ew.2.1 ew.2.2.1 (eeb (ewS ek1 ((16 * z2) + 1) ew.2.2.2) 1)).1 = (eeN ew.2.1 wt2.toNat (eeb (ewS ek1 ((16 * z2) + 1) ew.2.2.2) 1)).1 := by rw [hk144]
                            have hk144_21 : (eeN ew.2.1 ew.2.2.1 (eeb (ewS ek1 ((16 * z2) + 1) ew.2.2.2) 1)).2.1 = (eeN ew.2.1 wt2.toNat (eeb (ewS ek1 ((16 * z2) + 1) ew.2.2.2) 1)).2.1 := by rw [hk144]
                            have hk144_221 : (eeN ew.2.1 ew.2.2.1 (eeb (ewS ek1 ((16 * z2) + 1) ew.2.2.2) 1)).2.2.1 = (eeN ew.2.1 wt2.toNat (eeb (ewS ek1 ((16 * z2) + 1) ew.2.2.2) 1)).2.2.1 := by rw [hk144]
                            have hso145 : gSO ty (eeN ew.2.1 ew.2.2.1 (eeb (ewS ek1 ((16 * z2) + 1) ew.2.2.2) 1)) hq138 := by rw [hk144]; exact yq138_0
                            have hok146 : eeOk (eeN ew.2.1 ew.2.2.1 (eeb (ewS ek1 ((16 * z2) + 1) ew.2.2.2) 1)) := by rw [hk144]; exact yq138_1
                            have hok146c := hok146.cur
                            refine gz_s 2 (pc' := 214) (L' := [some (.ref m), some (.int (zi p)), some (.int (zi a)), some (.int (zi b)), some (.int (zi bt)), some (.int (zi ln)), some (.int (zi 0)), some (.int (zi k2)), some (.int (zi zq73)), some (.int (zi jn84v0))]) (S' := []) rfl ?_
                            have hR : eeRk (ewS ek1) eeN bt cf p a b sg (k2 + 1) = (0, ew.2.1, 0, eeN ew.2.1 ew.2.2.1 (eeb (ewS ek1 ((16 * z2) + 1) ew.2.2.2) 1)) := hRv 1 (if_neg hcv).symm (by decide)
                            have hR_1 : (eeRk (ewS ek1) eeN bt cf p a b sg (k2 + 1)).1 = 0 := by rw [hR]
                            have hR_21 : (eeRk (ewS ek1) eeN bt cf p a b sg (k2 + 1)).2.1 = ew.2.1 := by rw [hR]
                            have hR_221 : (eeRk (ewS ek1) eeN bt cf p a b sg (k2 + 1)).2.2.1 = 0 := by rw [hR]
                            have hk147 : (eeRk (ewS ek1) eeN bt cf p a b sg (k2 + 1)).2.2.2 = eeN ew.2.1 ew.2.2.1 (eeb (ewS ek1 ((16 * z2) + 1) ew.2.2.2) 1) := by rw [hR]
                            have hk147_1 : ((eeRk (ewS ek1) eeN bt cf p a b sg (k2 + 1)).2.2.2).1 = (eeN ew.2.1 ew.2.2.1 (eeb (ewS ek1 ((16 * z2) + 1) ew.2.2.2) 1)).1 := by rw [hk147]
                            have hk147_21 : ((eeRk (ewS ek1) eeN bt cf p a b sg (k2 + 1)).2.2.2).2.1 = (eeN ew.2.1 ew.2.2.1 (eeb (ewS ek1 ((16 * z2) + 1) ew.2.2.2) 1)).2.1 := by rw [hk147]
                            have hk147_221 : ((eeRk (ewS ek1) eeN bt cf p a b sg (k2 + 1)).2.2.2).2.2.1 = (eeN ew.2.1 ew.2.2.1 (eeb (ewS ek1 ((16 * z2) + 1) ew.2.2.2) 1)).2.2.1 := by rw [hk147]
                            have hso148 : gSO ty ((eeRk (ewS ek1) eeN bt cf p a b sg (k2 + 1)).2.2.2) hq138 := by rw [hk147]; exact hso145
                            have hok149 : eeOk ((eeRk (ewS ek1) eeN bt cf p a b sg (k2 + 1)).2.2.2) := by rw [hk147]; exact hok146
                            have hok149c := hok149.cur
                            have hwa150 : gWa ty (eeRk (ewS ek1) eeN bt cf p a b sg (k2 + 1)).2.1 (eeRk (ewS ek1) eeN bt cf p a b sg (k2 + 1)).2.2.1 hq138 := by rw [hR]; exact yq138_2
                            refine gy_s 2 (pc' := 64) (L' := [some (.ref m), some (.int (zi p)), some (.int (zi a)), some (.int (zi b)), some (.int (zi bt)), some (.int (zi ln)), some (.int (zi 0)), some (.int ((zi k2) + zi 1)), some (.int (zi zq73)), some (.int (zi jn84v0))]) (S' := []) (L2 := [some (.ref m), some (.int (zi p)), some (.int (zi a)), some (.int (zi b)), some (.int (zi bt)), some (.int (zi ln)), some (.int (zi 0)), some (.int (zi (k2 + 1))), some (.int (zi zq73)), some (.int (zi jn84v0))]) (S2 := []) rfl (by simp only [zi_add, zi_sub, zi_mul, zi_neg, zi_and1, zi_and7, zi_and15, zi_and31, zi_and255]) (by simp only [zi_add, zi_sub, zi_mul, zi_neg, zi_and1, zi_and7, zi_and15, zi_and31, zi_and255]) ?_
                            clear hAn hAp hzA jn84d hwa137e
                            exact gz_wk (ihlp13 hq138 0 (k2 + 1) fq138_0 fq138_1 fq138_2 fq138_3 (gms lp13m (by omega) (by omega)) sq138 ⟨by omega, by omega⟩ ⟨by omega, by omega⟩ ⟨afq138_0, bfq138_0⟩ ⟨afq138_1, bfq138_1⟩ ⟨afq138_2, bfq138_2⟩ ⟨afq138_3, bfq138_3⟩ (Int.le_antisymm (by omega) (by omega)) (Int.le_antisymm (by omega) (by omega)) (by omega) (by omega) (by omega) (Int.le_antisymm (by omega) (by omega)) (Int.le_antisymm (by omega) (by omega)) (Int.le_antisymm (by omega) (by omega)) (by omega) (by omega) s139 s140 efq138_0 efq138_1 efq138_2 efq138_3 pr141 pr142 hso148 hok149 hwa150) (gLw.s (gLw.s (gLw.s (gLw.s (gLw.s (gLw.s (gLw.s (gLw.s (gLw.n (gLw.n gLw.z))))))))))
                        · refine gy_icF rfl (by decide) (by decide) (by omega) (by omega) hc100 ?_
                          refine gz_s 1 (pc' := 156) (L' := [some (.ref m), some (.int (zi p)), some (.int (zi a)), some (.int (zi b)), some (.int (zi bt)), some (.int (zi ln)), some (.int (zi z2)), some (.int (zi k2)), some (.int (zi zq73)), some (.int (zi jn84v0))]) (S' := [.ref m]) rfl ?_
                          refine gs_gtr rfl (by decide) rfl sh90.1 tm rfl rfl rfl (fun c151 ec151 tc151 => ?_)
                          refine gz_s 1 (pc' := 160) (L' := [some (.ref m), some (.int (zi p)), some (.int (zi a)), some (.int (zi b)), some (.int (zi bt)), some (.int (zi ln)), some (.int (zi z2)), some (.int (zi k2)), some (.int (zi zq73)), some (.int (zi jn84v0))]) (S' := [.ref m, .ref c151]) rfl ?_
                          refine gs_gtk rfl (by decide) rfl sh90.1 tm rfl rfl lp85k5 ?_
                          refine gy_s 3 (pc' := 167) (L' := [some (.ref m), some (.int (zi p)), some (.int (zi a)), some (.int (zi b)), some (.int (zi bt)), some (.int (zi ln)), some (.int (zi z2)), some (.int (zi k2)), some (.int (zi zq73)), some (.int (zi jn84v0))]) (S' := [.int ((zi jn84v0) &&& (zi 1)), .int (zi wt2), .ref c151]) (L2 := [some (.ref m), some (.int (zi p)), some (.int (zi a)), some (.int (zi b)), some (.int (zi bt)), some (.int (zi ln)), some (.int (zi z2)), some (.int (zi k2)), some (.int (zi zq73)), some (.int (zi jn84v0))]) (S2 := [.int (zi (jn84v0 % 2)), .int (zi wt2), .ref c151]) rfl (by simp only [zi_add, zi_sub, zi_mul, zi_neg, zi_and1, zi_and7, zi_and15, zi_and31, zi_and255]) (by simp only [zi_add, zi_sub, zi_mul, zi_neg, zi_and1, zi_and7, zi_and15, zi_and31, zi_and255]) ?_
                          have hl152 : 64 ≤ h90.2.2.2.1 c151 ∧ h90.2.2.2.1 c151 ≤ 64 := gJ.rowl (G := gGG) sh90.1 tc151 rfl
                          refine gs_ast rfl (by decide) sh90 tc151 rfl rfl rfl (by decide) (fun _ => rfl) (by omega) (by omega) (fun _ => (by decide : (42999 : Nat) ∈ ([1059, 1061, 1062, 1075, 32999, 42999] : List Nat))) (by omega) (by omega) (fun h153 sh153 eh153 fh153 => ?_)
                          have pr154 := gTk.pt fh153 tc151 (by decide) (by decide) lp85k6
                          have pr155 := gRn.pt fh153 tc151 (by decide) lp85k7
                          have pr156 := gSO.pt fh153 tc151 (by decide) lp85k8
                          have s157 := (fh153 m 67 (fun q => absurd (((tm).symm.trans (congrArg ty q.1)).trans tc151) (by decide))).trans lp85k0
                          have s158 := (fh153 m 64 (fun q => absurd (((tm).symm.trans (congrArg ty q.1)).trans tc151) (by decide))).trans lp85k1
                          have s159 := (fh153 m 59 (fun q => absurd (((tm).symm.trans (congrArg ty q.1)).trans tc151) (by decide))).trans lp85k2
                          have s160 := (fh153 m 61 (fun q => absurd (((tm).symm.trans (congrArg ty q.1)).trans tc151) (by decide))).trans lp85k3
                          have s161 := (fh153 m 62 (fun q => absurd (((tm).symm.trans (congrArg ty q.1)).trans tc151) (by decide))).trans lp85k4
                          have s162 := (fh153 m 75 (fun q => absurd (((tm).symm.trans (congrArg ty q.1)).trans tc151) (by decide))).trans lp85k5
                          have s163 := (fh153 m 76 (fun q => absurd (((tm).symm.trans (congrArg ty q.1)).trans tc151) (by decide))).trans ec151
                          have pr164 := gEl.set (i := wt2) (z := jn84v0 % 2) uq tc151 (by decide) eh153 (by omega) (by omega)
                          have hwa165 : gWa ty (2 * ew.2.1 + (jn84v0 % 2)) (ew.2.2.1 + 1) h153 := gWa.put (i := wt2) uq tc151 lp85k10 (by omega) ⟨by omega, by omega⟩ (by omega) fh153 eh153
                          refine gz_s 2 (pc' := 170) (L' := [some (.ref m), some (.int (zi p)), some (.int (zi a)), some (.int (zi b)), some (.int (zi bt)), some (.int (zi ln)), some (.int (zi z2)), some (.int (zi k2)), some (.int (zi zq73)), some (.int (zi jn84v0))]) (S' := [.ref m, .ref m]) rfl ?_
                          refine gs_gtk rfl (by decide) rfl sh153.1 tm rfl rfl s162 ?_
                          refine gy_s 2 (pc' := 175) (L' := [some (.ref m), some (.int (zi p)), some (.int (zi a)), some (.int (zi b)), some (.int (zi bt)), some (.int (zi ln)), some (.int (zi z2)), some (.int (zi k2)), some (.int (zi zq73)), some (.int (zi jn84v0))]) (S' := [.int ((zi wt2) + (zi 1)), .ref m]) (L2 := [some (.ref m), some (.int (zi p)), some (.int (zi a)), some (.int (zi b)), some (.int (zi bt)), some (.int (zi ln)), some (.int (zi z2)), some (.int (zi k2)), some (.int (zi zq73)), some (.int (zi jn84v0))]) (S2 := [.int (zi (wt2 + 1)), .ref m]) rfl (by simp only [zi_add, zi_sub, zi_mul, zi_neg, zi_and1, zi_and7, zi_and15, zi_and31, zi_and255]) (by simp only [zi_add, zi_sub, zi_mul, zi_neg, zi_and1, zi_and7, zi_and15, zi_and31, zi_and255]) ?_
                          refine gs_put rfl (by decide) rfl sh153 tm rfl rfl rfl rfl (Or.inl rfl) (by decide) (by omega) (by omega) (fun h166 sh166 eh166 fh166 => ?_)
                          have pr167 := gTk.pt fh166 tm (by decide) (by decide) pr154
                          have pr168 := gRn.pt fh166 tm (by decide) pr155
                          have pr169 := gSO.pt fh166 tm (by decide) pr156
                          have pr170 := gEl.pt fh166 tm (by decide) pr164
                          have pr171 := gWa.pt fh166 tm (by decide) hwa165
                          have s172 := (fh166 m 67 (fun q => absurd q.2 (by decide))).trans s157
                          have s173 := (fh166 m 64 (fun q => absurd q.2 (by decide))).trans s158
                          have s174 := (fh166 m 59 (fun q => absurd q.2 (by decide))).trans s159
                          have s175 := (fh166 m 61 (fun q => absurd q.2 (by decide))).trans s160
                          have s176 := (fh166 m 62 (fun q => absurd q.2 (by decide))).trans s161
                          have s177 := (fh166 m 76 (fun q => absurd q.2 (by decide))).trans s163
                          refine gz_s 1 (pc' := 214) (L' := [some (.ref m), some (.int (zi p)), some (.int (zi a)), some (.int (zi b)), some (.int (zi bt)), some (.int (zi ln)), some (.int (zi z2)), some (.int (zi k2)), some (.int (zi zq73)), some (.int (zi jn84v0))]) (S' := []) rfl ?_
                          have hR : eeRk (ewS ek1) eeN bt cf p a b sg (k2 + 1) = (ew.1, 2 * ew.2.1 + jn84v0 % 2, ew.2.2.1 + 1, ew.2.2.2) := by rw [eeRk_m (a := jn84v0) (x := zr) (y := z2) (by omega) (by omega) (by omega) rfl hn9 (by omega) (by rw [← her]; exact lp13f6) ⟨by omega, by omega⟩ (e_hm (hlq k2 (by omega)) lp85f7 lp85f6 (by omega)), ← her, ← hew]
                          have hR_1 : (eeRk (ewS ek1) eeN bt cf p a b sg (k2 + 1)).1 = ew.1 := by rw [hR]
                          have hR_21 : (eeRk (ewS ek1) eeN bt cf p a b sg (k2 + 1)).2.1 = 2 * ew.2.1 + jn84v0 % 2 := by rw [hR]
                          have hR_221 : (eeRk (ewS ek1) eeN bt cf p a b sg (k2 + 1)).2.2.1 = ew.2.2.1 + 1 := by rw [hR]
                          have hk178 : (eeRk (ewS ek1) eeN bt cf p a b sg (k2 + 1)).2.2.2 = ew.2.2.2 := by rw [hR]
                          have hk178_1 : ((eeRk (ewS ek1) eeN bt cf p a b sg (k2 + 1)).2.2.2).1 = (ew.2.2.2).1 := by rw [hk178]
                          have hk178_21 : ((eeRk (ewS ek1) eeN bt cf p a b sg (k2 + 1)).2.2.2).2.1 = (ew.2.2.2).2.1 := by rw [hk178]
                          have hk178_221 : ((eeRk (ewS ek1) eeN bt cf p a b sg (k2 + 1)).2.2.2).2.2.1 = (ew.2.2.2).2.2.1 := by rw [hk178]
                          have hso179 : gSO ty ((eeRk (ewS ek1) eeN bt cf p a b sg (k2 + 1)).2.2.2) h166 := by rw [hk178]; exact pr169
                          have hok180 : eeOk ((eeRk (ewS ek1) eeN bt cf p a b sg (k2 + 1)).2.2.2) := by rw [hk178]; exact lp85k9
                          have hok180c := hok180.cur
                          have hwa181 : gWa ty (eeRk (ewS ek1) eeN bt cf p a b sg (k2 + 1)).2.1 (eeRk (ewS ek1) eeN bt cf p a b sg (k2 + 1)).2.2.1 h166 := by rw [hR]; exact pr171
                          refine gy_s 2 (pc' := 64) (L' := [some (.ref m), some (.int (zi p)), some (.int (zi a)), some (.int (zi b)), some (.int (zi bt)), some (.int (zi ln)), some (.int (zi z2)), some (.int ((zi k2) + zi 1)), some (.int (zi zq73)), some (.int (zi jn84v0))]) (S' := []) (L2 := [some (.ref m), some (.int (zi p)), some (.int (zi a)), some (.int (zi b)), some (.int (zi bt)), some (.int (zi ln)), some (.int (zi z2)), some (.int (zi (k2 + 1))), some (.int (zi zq73)), some (.int (zi jn84v0))]) (S2 := []) rfl (by simp only [zi_add, zi_sub, zi_mul, zi_neg, zi_and1, zi_and7, zi_and15, zi_and31, zi_and255]) (by simp only [zi_add, zi_sub, zi_mul, zi_neg, zi_and1, zi_and7, zi_and15, zi_and31, zi_and255]) ?_
                          clear hAn hAp hzA jn84d lp85f7 lp85f8
                          exact gz_wk (ihlp13 h166 z2 (k2 + 1) wv2 uv2 bv2 (wt2 + 1) (gms lp13m (by omega) (by omega)) sh166 lp85f0 ⟨by omega, by omega⟩ lp85f1 lp85f2 lp85f3 ⟨by omega, by omega⟩ (Int.le_antisymm (by omega) (by omega)) (Int.le_antisymm (by omega) (by omega)) (by omega) (by omega) (by omega) (Int.le_antisymm (by omega) (by omega)) (Int.le_antisymm (by omega) (by omega)) (Int.le_antisymm (by omega) (by omega)) (by omega) (by omega) s172 s173 s174 s175 s176 eh166 pr167 pr168 hso179 hok180 hwa181) (gLw.s (gLw.s (gLw.s (gLw.s (gLw.s (gLw.s (gLw.s (gLw.s (gLw.n (gLw.n gLw.z))))))))))
                      · refine gy_icF rfl (by decide) (by decide) (by omega) (by omega) hc99 ?_
                        refine gz_s 2 (pc' := 113) (L' := [some (.ref m), some (.int (zi p)), some (.int (zi a)), some (.int (zi b)), some (.int (zi bt)), some (.int (zi ln)), some (.int (zi z2)), some (.int (zi k2)), some (.int (zi zq73)), some (.int (zi jn84v0))]) (S' := [.int (zi ln), .int (zi k2)]) rfl ?_
                        by_cases hc182 : (ln : Int) < k2
                        · refine gy_icT (pc' := 138) rfl (by decide) (by decide) (by omega) (by omega) hc182 ?_
                          refine gz_s 1 (pc' := 140) (L' := [some (.ref m), some (.int (zi p)), some (.int (zi a)), some (.int (zi b)), some (.int (zi bt)), some (.int (zi ln)), some (.int (zi z2)), some (.int (zi k2)), some (.int (zi zq73)), some (.int (zi jn84v0))]) (S' := [.int (zi jn84v0)]) rfl ?_
                          refine gy_ifT (pc' := 149) rfl (by decide) (by decide) (by omega) (by first | (simp [zc]; done) | (simp only [zc]; omega)) ?_
                          refine gz_s 2 (pc' := 152) (L' := [some (.ref m), some (.int (zi p)), some (.int (zi a)), some (.int (zi b)), some (.int (zi bt)), some (.int (zi ln)), some (.int (zi z2)), some (.int (zi k2)), some (.int (zi zq73)), some (.int (zi jn84v0))]) (S' := [.int (zi 1), .int (zi jn84v0)]) rfl ?_
                          by_cases hc183 : (jn84v0 : Int) ≤ 1
                          · refine gy_icT (pc' := 181) rfl (by decide) (by decide) (by omega) (by omega) hc183 ?_
                            have h19 : jn84v0 = 1 := Int.le_antisymm (by omega) (by omega)
                            have hk9 : k2 ≤ eeLk bt cf p a b := eeLk_1 (by omega) (by omega) (by omega) (by omega) rfl (hn9.symm.trans h19)
                            have hm9 := e_hm (hlq k2 (by omega)) lp85f7 lp85f6 (by omega)
                            have hz15 : z2 ≤ 15 := hm9.elim (fun w => w.2.1) (fun w => absurd hk9 w.1)
                            have hs9 : (16 * z2) + 1 = 16 * (z2 % 16) + 1 := by rw [Int.emod_eq_of_lt (by omega) (by omega)]
                            have hRv : ∀ V9 : Int, (V9 = if cf (p + k2).toNat < 0 then 0 else 1) → V9 = V9 % 2 → eeRk (ewS ek1) eeN bt cf p a b sg (k2 + 1) = (0, ew.2.1, 0, eeN ew.2.1 ew.2.2.1 (eeb (ewS ek1 ((16 * z2) + 1) ew.2.2.2) V9)) := fun V9 e8 e9 => eeRk_1w (ek := ek1) (lw := bt) (p := p) (fr := a) (tt := b) (k := k2) (cf := cf) (g := sg) (v := cf (p + k2).toNat) (a := jn84v0) (s := (16 * z2) + 1) (V := V9) (x := zr) (y := z2) (er := er) (ew := ew) her hew (by omega) (by omega) (by omega) rfl hn9 h19 lp13f6 ⟨by omega, by omega⟩ hm9 lp85f9 hs9 e8 e9
                            clear hm9 hs9 lp85f7 lp85f8
                            refine gy_s 7 (pc' := 190) (L' := [some (.ref m), some (.int (zi p)), some (.int (zi a)), some (.int (zi b)), some (.int (zi bt)), some (.int (zi ln)), some (.int (zi z2)), some (.int (zi k2)), some (.int (zi zq73)), some (.int (zi jn84v0))]) (S' := [.int (((zi 16) * (zi z2)) + (zi 1)), .int (zi 1), .ref m]) (L2 := [some (.ref m), some (.int (zi p)), some (.int (zi a)), some (.int (zi b)), some (.int (zi bt)), some (.int (zi ln)), some (.int (zi z2)), some (.int (zi k2)), some (.int (zi zq73)), some (.int (zi jn84v0))]) (S2 := [.int (zi ((16 * z2) + 1)), .int (zi 1), .ref m]) rfl (by simp only [zi_add, zi_sub, zi_mul, zi_neg, zi_and1, zi_and7, zi_and15, zi_and31, zi_and255]) (by simp only [zi_add, zi_sub, zi_mul, zi_neg, zi_and1, zi_and7, zi_and15, zi_and31, zi_and255]) ?_
                            refine gz_call rfl (by decide) rfl (by decide) (by decide) (gcal_of rfl rfl rfl (Nat.le_of_ble_eq_true rfl) (gJ.recv (G := gGG) sh90.1 tm rfl rfl)) (mw_putSymbol1 _ sh90.1 m tm 1 ⟨by omega, by omega⟩ ((16 * z2) + 1) ⟨by omega, by omega⟩ wv2 lp85k2 lp85f1 uv2 lp85k3 lp85f2 bv2 lp85k4 lp85f3 ic lp85k0 ric ew.2.2.2 ek1 (Int.le_antisymm (by omega) (by omega)) (Int.le_antisymm (by omega) (by omega)) (Int.le_antisymm (by omega) (by omega)) (by omega) uq lp85k8 lp85k9 lp85k6) (fun q184 _ wq184 => ?_)
                            obtain ⟨pq184, oq184, hq184⟩ := q184
                            obtain ⟨xq184, fq184_0, fq184_1, fq184_2, gq184, efq184_0, afq184_0, bfq184_0, efq184_1, afq184_1, bfq184_1, efq184_2, afq184_2, bfq184_2, uq184_0, uq184_1, uq184_2, uq184_3, uq184_4, yq184_0, yq184_1⟩ := wq184
                            have ch184a := ch_a lp85f15 uq184_3
                            have ch184b := Int.le_trans lp85f16 uq184_4
                            clear lp85f15 lp85f16 uq184_3 uq184_4 lp85f1 lp85f2 lp85f3 lp85f12 lp85f13 lp85f14
                            refine ⟨_, gq184, ?_⟩
                            show gz gPP gGG gcn _ _ 193 [some (.ref m), some (.int (zi p)), some (.int (zi a)), some (.int (zi b)), some (.int (zi bt)), some (.int (zi ln)), some (.int (zi z2)), some (.int (zi k2)), some (.int (zi zq73)), some (.int (zi jn84v0))] [] hq184 _
                            have sq184 := gSs.tr sh90 xq184 (by decide)
                            have s185 := (xq184.2.2.2.2.2 m 67 (by rw [tm]; decide)).trans lp85k0
                            have s186 := (xq184.2.2.2.2.2 m 64 (by rw [tm]; decide)).trans lp85k1
                            have s187 := (xq184.2.2.2.2.2 m 75 (by rw [tm]; decide)).trans lp85k5
                            have pr188 := gTk.fr xq184.2 (by decide) (by decide) lp85k6
                            have pr189 := gRn.fr xq184.2 (by decide) lp85k7
                            have pr190 := gWa.fr xq184.2 (by decide) lp85k10
                            refine gz_s 2 (pc' := 196) (L' := [some (.ref m), some (.int (zi p)), some (.int (zi a)), some (.int (zi b)), some (.int (zi bt)), some (.int (zi ln)), some (.int (zi z2)), some (.int (zi k2)), some (.int (zi zq73)), some (.int (zi jn84v0))]) (S' := [.int (zi zq73), .ref m]) rfl ?_
                            by_cases hc191 : (zq73 : Int) ≤ 0
                            · refine gy_ifT (pc' := 203) rfl (by decide) (by decide) (by omega) hc191 ?_
                              refine gz_s 1 (pc' := 204) (L' := [some (.ref m), some (.int (zi p)), some (.int (zi a)), some (.int (zi b)), some (.int (zi bt)), some (.int (zi ln)), some (.int (zi z2)), some (.int (zi k2)), some (.int (zi zq73)), some (.int (zi jn84v0))]) (S' := [.int (zi 0), .ref m]) rfl ?_
                              have hzn : zq73 < 0 := (Int.lt_or_le zq73 0).elim id (fun w => absurd (jn84d.2.2.1 w) (by omega))
                              have hcv := hAn hzn
                              refine gz_call rfl (by decide) rfl (by decide) (by decide) (gcal_of rfl rfl rfl (Nat.le_of_ble_eq_true rfl) (gJ.recv (G := gGG) sq184.1 tm rfl rfl)) (mw_putBit _ sq184.1 m tm 0 ⟨by omega, by omega⟩ fq184_0 efq184_0 ⟨afq184_0, bfq184_0⟩ fq184_1 efq184_1 ⟨afq184_1, bfq184_1⟩ fq184_2 efq184_2 ⟨afq184_2, bfq184_2⟩ ic s185 ric (ewS ek1 ((16 * z2) + 1) ew.2.2.2) (Int.le_antisymm (by omega) (by omega)) (Int.le_antisymm (by omega) (by omega)) (Int.le_antisymm (by omega) (by omega)) (by omega) uq yq184_0 yq184_1) (fun q192 _ wq192 => ?_)
                              obtain ⟨pq192, oq192, hq192⟩ := q192
                              obtain ⟨xq192, fq192_0, fq192_1, fq192_2, gq192, efq192_0, afq192_0, bfq192_0, efq192_1, afq192_1, bfq192_1, efq192_2, afq192_2, bfq192_2, uq192_0, uq192_1, uq192_2, uq192_3, uq192_4, yq192_0, yq192_1⟩ := wq192
                              have ch192a := ch_a ch184a uq192_3
                              have ch192b := Int.le_trans ch184b uq192_4
                              clear ch184a ch184b uq192_3 uq192_4 afq184_0 bfq184_0 afq184_1 bfq184_1 afq184_2 bfq184_2 uq184_0 uq184_1 uq184_2
                              refine ⟨_, gq192, ?_⟩
                              show gz gPP gGG gcn _ _ 207 [some (.ref m), some (.int (zi p)), some (.int (zi a)), some (.int (zi b)), some (.int (zi bt)), some (.int (zi ln)), some (.int (zi z2)), some (.int (zi k2)), some (.int (zi zq73)), some (.int (zi jn84v0))] [] hq192 _
                              have sq192 := gSs.tr sq184 xq192 (by decide)
                              have s193 := (xq192.2.2.2.2.2 m 67 (by rw [tm]; decide)).trans s185
                              have s194 := (xq192.2.2.2.2.2 m 64 (by rw [tm]; decide)).trans s186
                              have s195 := (xq192.2.2.2.2.2 m 75 (by rw [tm]; decide)).trans s187
                              have pr196 := gTk.fr xq192.2 (by decide) (by decide) pr188
                              have pr197 := gRn.fr xq192.2 (by decide) pr189
                              have pr198 := gWa.fr xq192.2 (by decide) pr190
                              have hwa199e : (wt2).toNat = ew.2.2.1 := (congrArg Int.toNat lp85f10).trans (Int.toNat_natCast _)
                              have hwa199 : gWa ty ew.2.1 (wt2).toNat hq192 := by rw [hwa199e]; exact pr198
                              refine gz_s 1 (pc' := 208) (L' := [some (.ref m), some (.int (zi p)), some (.int (zi a)), some (.int (zi b)), some (.int (zi bt)), some (.int (zi ln)), some (.int (zi z2)), some (.int (zi k2)), some (.int (zi zq73)), some (.int (zi jn84v0))]) (S' := [.ref m]) rfl ?_
                              refine gz_call rfl (by decide) rfl (by decide) (by decide) (gcal_of rfl rfl rfl (Nat.le_of_ble_eq_true rfl) (gJ.recv (G := gGG) sq192.1 tm rfl rfl)) (mw_putWaiting _ sq192.1 m tm fq192_0 efq192_0 ⟨afq192_0, bfq192_0⟩ fq192_1 efq192_1 ⟨afq192_1, bfq192_1⟩ fq192_2 efq192_2 ⟨afq192_2, bfq192_2⟩ ic s193 ric wt2 s195 lp85f4 (eeb (ewS ek1 ((16 * z2) + 1) ew.2.2.2) 0) ew.2.1 (Int.le_antisymm (by omega) (by omega)) (Int.le_antisymm (by omega) (by omega)) (Int.le_antisymm (by omega) (by omega)) (by omega) uq yq192_0 yq192_1 hwa199) (fun q200 _ wq200 => ?_)
                              obtain ⟨pq200, oq200, hq200⟩ := q200
                              obtain ⟨xq200, fq200_0, fq200_1, fq200_2, fq200_3, gq200, efq200_0, afq200_0, bfq200_0, efq200_1, afq200_1, bfq200_1, efq200_2, afq200_2, bfq200_2, efq200_3, afq200_3, bfq200_3, uq200_0, uq200_1, uq200_2, uq200_3, uq200_4, uq200_5, yq200_0, yq200_1, yq200_2⟩ := wq200
                              have ch200a := ch_a ch192a uq200_3
                              have ch200b := Int.le_trans ch192b uq200_4
                              clear ch192a ch192b uq200_3 uq200_4 afq192_0 bfq192_0 afq192_1 bfq192_1 afq192_2 bfq192_2 uq192_0 uq192_1 uq192_2
                              refine ⟨_, gq200, ?_⟩
                              show gz gPP gGG gcn _ _ 211 [some (.ref m), some (.int (zi p)), some (.int (zi a)), some (.int (zi b)), some (.int (zi bt)), some (.int (zi ln)), some (.int (zi z2)), some (.int (zi k2)), some (.int (zi zq73)), some (.int (zi jn84v0))] [] hq200 _
                              have sq200 := gSs.tr sq192 xq200 (by decide)
                              have s201 := (xq200.2.2.2.2.2 m 67 (by rw [tm]; decide)).trans s193
                              have s202 := (xq200.2.2.2.2.2 m 64 (by rw [tm]; decide)).trans s194
                              have pr203 := gTk.fr xq200.2 (by decide) (by decide) pr196
                              have pr204 := gRn.fr xq200.2 (by decide) pr197
                              have pr205 := gWa.fr xq200.2 (by decide) hwa199
                              have hk206 : eeN ew.2.1 ew.2.2.1 (eeb (ewS ek1 ((16 * z2) + 1) ew.2.2.2) 0) = eeN ew.2.1 wt2.toNat (eeb (ewS ek1 ((16 * z2) + 1) ew.2.2.2) 0) := by rw [hwa199e]
                              have hk206_1 : (eeN ew.2.1 ew.2.2.1 (eeb (ewS ek1 ((16 * z2) + 1) ew.2.2.2) 0)).1 = (eeN ew.2.1 wt2.toNat (eeb (ewS ek1 ((16 * z2) + 1) ew.2.2.2) 0)).1 := by rw [hk206]
                              have hk206_21 : (eeN ew.2.1 ew.2.2.1 (eeb (ewS ek1 ((16 * z2) + 1) ew.2.2.2) 0)).2.1 = (eeN ew.2.1 wt2.toNat (eeb (ewS ek1 ((16 * z2) + 1) ew.2.2.2) 0)).2.1 := by rw [hk206]
                              have hk206_221 : (eeN ew.2.1 ew.2.2.1 (eeb (ewS ek1 ((16 * z2) + 1) ew.2.2.2) 0)).2.2.1 = (eeN ew.2.1 wt2.toNat (eeb (ewS ek1 ((16 * z2) + 1) ew.2.2.2) 0)).2.2.1 := by rw [hk206]
                              have hso207 : gSO ty (eeN ew.2.1 ew.2.2.1 (eeb (ewS ek1 ((16 * z2) + 1) ew.2.2.2) 0)) hq200 := by rw [hk206]; exact yq200_0
                              have hok208 : eeOk (eeN ew.2.1 ew.2.2.1 (eeb (ewS ek1 ((16 * z2) + 1) ew.2.2.2) 0)) := by rw [hk206]; exact yq200_1
                              have hok208c := hok208.cur
                              refine gz_s 2 (pc' := 214) (L' := [some (.ref m), some (.int (zi p)), some (.int (zi a)), some (.int (zi b)), some (.int (zi bt)), some (.int (zi ln)), some (.int (zi 0)), some (.int (zi k2)), some (.int (zi zq73)), some (.int (zi jn84v0))]) (S' := []) rfl ?_
                              have hR : eeRk (ewS ek1) eeN bt cf p a b sg (k2 + 1) = (0, ew.2.1, 0, eeN ew.2.1 ew.2.2.1 (eeb (ewS ek1 ((16 * z2) + 1) ew.2.2.2) 0)) := hRv 0 (if_pos hcv).symm (by decide)
                              have hR_1 : (eeRk (ewS ek1) eeN bt cf p a b sg (k2 + 1)).1 = 0 := by rw [hR]
                              have hR_21 : (eeRk (ewS ek1) eeN bt cf p a b sg (k2 + 1)).2.1 = ew.2.1 := by rw [hR]
                              have hR_221 : (eeRk (ewS ek1) eeN bt cf p a b sg (k2 + 1)).2.2.1 = 0 := by rw [hR]
                              have hk209 : (eeRk (ewS ek1) eeN bt cf p a b sg (k2 + 1)).2.2.2 = eeN ew.2.1 ew.2.2.1 (eeb (ewS ek1 ((16 * z2) + 1) ew.2.2.2) 0) := by rw [hR]
                              have hk209_1 : ((eeRk (ewS ek1) eeN bt cf p a b sg (k2 + 1)).2.2.2).1 = (eeN ew.2.1 ew.2.2.1 (eeb (ewS ek1 ((16 * z2) + 1) ew.2.2.2) 0)).1 := by rw [hk209]
                              have hk209_21 : ((eeRk (ewS ek1) eeN bt cf p a b sg (k2 + 1)).2.2.2).2.1 = (eeN ew.2.1 ew.2.2.1 (eeb (ewS ek1 ((16 * z2) + 1) ew.2.2.2) 0)).2.1 := by rw [hk209]
                              have hk209_221 : ((eeRk (ewS ek1) eeN bt cf p a b sg (k2 + 1)).2.2.2).2.2.1 = (eeN ew.2.1 ew.2.2.1 (eeb (ewS ek1 ((16 * z2) + 1) ew.2.2.2) 0)).2.2.1 := by rw [hk209]
                              have hso210 : gSO ty ((eeRk (ewS ek1) eeN bt cf p a b sg (k2 + 1)).2.2.2) hq200 := by rw [hk209]; exact hso207
                              have hok211 : eeOk ((eeRk (ewS ek1) eeN bt cf p a b sg (k2 + 1)).2.2.2) := by rw [hk209]; exact hok208
                              have hok211c := hok211.cur
                              have hwa212 : gWa ty (eeRk (ewS ek1) eeN bt cf p a b sg (k2 + 1)).2.1 (eeRk (ewS ek1) eeN bt cf p a b sg (k2 + 1)).2.2.1 hq200 := by rw [hR]; exact yq200_2
                              refine gy_s 2 (pc' := 64) (L' := [some (.ref m), some (.int (zi p)), some (.int (zi a)), some (.int (zi b)), some (.int (zi bt)), some (.int (zi ln)), some (.int (zi 0)), some (.int ((zi k2) + zi 1)), some (.int (zi zq73)), some (.int (zi jn84v0))]) (S' := []) (L2 := [some (.ref m), some (.int (zi p)), some (.int (zi a)), some (.int (zi b)), some (.int (zi bt)), some (.int (zi ln)), some (.int (zi 0)), some (.int (zi (k2 + 1))), some (.int (zi zq73)), some (.int (zi jn84v0))]) (S2 := []) rfl (by simp only [zi_add, zi_sub, zi_mul, zi_neg, zi_and1, zi_and7, zi_and15, zi_and31, zi_and255]) (by simp only [zi_add, zi_sub, zi_mul, zi_neg, zi_and1, zi_and7, zi_and15, zi_and31, zi_and255]) ?_
                              clear hAn hAp hzA jn84d hwa199e
                              exact gz_wk (ihlp13 hq200 0 (k2 + 1) fq200_0 fq200_1 fq200_2 fq200_3 (gms lp13m (by omega) (by omega)) sq200 ⟨by omega, by omega⟩ ⟨by omega, by omega⟩ ⟨afq200_0, bfq200_0⟩ ⟨afq200_1, bfq200_1⟩ ⟨afq200_2, bfq200_2⟩ ⟨afq200_3, bfq200_3⟩ (Int.le_antisymm (by omega) (by omega)) (Int.le_antisymm (by omega) (by omega)) (by omega) (by omega) (by omega) (Int.le_antisymm (by omega) (by omega)) (Int.le_antisymm (by omega) (by omega)) (Int.le_antisymm (by omega) (by omega)) (by omega) (by omega) s201 s202 efq200_0 efq200_1 efq200_2 efq200_3 pr203 pr204 hso210 hok211 hwa212) (gLw.s (gLw.s (gLw.s (gLw.s (gLw.s (gLw.s (gLw.s (gLw.s (gLw.n (gLw.n gLw.z))))))))))
                            · refine gy_ifF rfl (by decide) (by decide) (by omega) hc191 ?_
                              refine gz_s 2 (pc' := 204) (L' := [some (.ref m), some (.int (zi p)), some (.int (zi a)), some (.int (zi b)), some (.int (zi bt)), some (.int (zi ln)), some (.int (zi z2)), some (.int (zi k2)), some (.int (zi zq73)), some (.int (zi jn84v0))]) (S' := [.int (zi 1), .ref m]) rfl ?_
                              have hcv := hAp (by omega : 0 < zq73)
                              refine gz_call rfl (by decide) rfl (by decide) (by decide) (gcal_of rfl rfl rfl (Nat.le_of_ble_eq_true rfl) (gJ.recv (G := gGG) sq184.1 tm rfl rfl)) (mw_putBit _ sq184.1 m tm 1 ⟨by omega, by omega⟩ fq184_0 efq184_0 ⟨afq184_0, bfq184_0⟩ fq184_1 efq184_1 ⟨afq184_1, bfq184_1⟩ fq184_2 efq184_2 ⟨afq184_2, bfq184_2⟩ ic s185 ric (ewS ek1 ((16 * z2) + 1) ew.2.2.2) (Int.le_antisymm (by omega) (by omega)) (Int.le_antisymm (by omega) (by omega)) (Int.le_antisymm (by omega) (by omega)) (by omega) uq yq184_0 yq184_1) (fun q213 _ wq213 => ?_)
                              obtain ⟨pq213, oq213, hq213⟩ := q213
                              obtain ⟨xq213, fq213_0, fq213_1, fq213_2, gq213, efq213_0, afq213_0, bfq213_0, efq213_1, afq213_1, bfq213_1, efq213_2, afq213_2, bfq213_2, uq213_0, uq213_1, uq213_2, uq213_3, uq213_4, yq213_0, yq213_1⟩ := wq213
                              have ch213a := ch_a ch184a uq213_3
                              have ch213b := Int.le_trans ch184b uq213_4
                              clear ch184a ch184b uq213_3 uq213_4 afq184_0 bfq184_0 afq184_1 bfq184_1 afq184_2 bfq184_2 uq184_0 uq184_1 uq184_2
                              refine ⟨_, gq213, ?_⟩
                              show gz gPP gGG gcn _ _ 207 [some (.ref m), some (.int (zi p)), some (.int (zi a)), some (.int (zi b)), some (.int (zi bt)), some (.int (zi ln)), some (.int (zi z2)), some (.int (zi k2)), some (.int (zi zq73)), some (.int (zi jn84v0))] [] hq213 _
                              have sq213 := gSs.tr sq184 xq213 (by decide)
                              have s214 := (xq213.2.2.2.2.2 m 67 (by rw [tm]; decide)).trans s185
                              have s215 := (xq213.2.2.2.2.2 m 64 (by rw [tm]; decide)).trans s186
                              have s216 := (xq213.2.2.2.2.2 m 75 (by rw [tm]; decide)).trans s187
                              have pr217 := gTk.fr xq213.2 (by decide) (by decide) pr188
                              have pr218 := gRn.fr xq213.2 (by decide) pr189
                              have pr219 := gWa.fr xq213.2 (by decide) pr190
                              have hwa220e : (wt2).toNat = ew.2.2.1 := (congrArg Int.toNat lp85f10).trans (Int.toNat_natCast _)
                              have hwa220 : gWa ty ew.2.1 (wt2).toNat hq213 := by rw [hwa220e]; exact pr219
                              refine gz_s 1 (pc' := 208) (L' := [some (.ref m), some (.int (zi p)), some (.int (zi a)), some (.int (zi b)), some (.int (zi bt)), some (.int (zi ln)), some (.int (zi z2)), some (.int (zi k2)), some (.int (zi zq73)), some (.int (zi jn84v0))]) (S' := [.ref m]) rfl ?_
                              refine gz_call rfl (by decide) rfl (by decide) (by decide) (gcal_of rfl rfl rfl (Nat.le_of_ble_eq_true rfl) (gJ.recv (G := gGG) sq213.1 tm rfl rfl)) (mw_putWaiting _ sq213.1 m tm fq213_0 efq213_0 ⟨afq213_0, bfq213_0⟩ fq213_1 efq213_1 ⟨afq213_1, bfq213_1⟩ fq213_2 efq213_2 ⟨afq213_2, bfq213_2⟩ ic s214 ric wt2 s216 lp85f4 (eeb (ewS ek1 ((16 * z2) + 1) ew.2.2.2) 1) ew.2.1 (Int.le_antisymm (by omega) (by omega)) (Int.le_antisymm (by omega) (by omega)) (Int.le_antisymm (by omega) (by omega)) (by omega) uq yq213_0 yq213_1 hwa220) (fun q221 _ wq221 => ?_)
                              obtain ⟨pq221, oq221, hq221⟩ := q221
                              obtain ⟨xq221, fq221_0, fq221_1, fq221_2, fq221_3, gq221, efq221_0, afq221_0, bfq221_0, efq221_1, afq221_1, bfq221_1, efq221_2, afq221_2, bfq221_2, efq221_3, afq221_3, bfq221_3, uq221_0, uq221_1, uq221_2, uq221_3, uq221_4, uq221_5, yq221_0, yq221_1, yq221_2⟩ := wq221
                              have ch221a := ch_a ch213a uq221_3
                              have ch221b := Int.le_trans ch213b uq221_4
                              clear ch213a ch213b uq221_3 uq221_4 afq213_0 bfq213_0 afq213_1 bfq213_1 afq213_2 bfq213_2 uq213_0 uq213_1 uq213_2
                              refine ⟨_, gq221, ?_⟩
                              show gz gPP gGG gcn _ _ 211 [some (.ref m), some (.int (zi p)), some (.int (zi a)), some (.int (zi b)), some (.int (zi bt)), some (.int (zi ln)), some (.int (zi z2)), some (.int (zi k2)), some (.int (zi zq73)), some (.int (zi jn84v0))] [] hq221 _
                              have sq221 := gSs.tr sq213 xq221 (by decide)
                              have s222 := (xq221.2.2.2.2.2 m 67 (by rw [tm]; decide)).trans s214
                              have s223 := (xq221.2.2.2.2.2 m 64 (by rw [tm]; decide)).trans s215
                              have pr224 := gTk.fr xq221.2 (by decide) (by decide) pr217
                              have pr225 := gRn.fr xq221.2 (by decide) pr218
                              have pr226 := gWa.fr xq221.2 (by decide) hwa220
                              have hk227 : eeN ew.2.1 ew.2.2.1 (eeb (ewS ek1 ((16 * z2) + 1) ew.2.2.2) 1) = eeN ew.2.1 wt2.toNat (eeb (ewS ek1 ((16 * z2) + 1) ew.2.2.2) 1) := by rw [hwa220e]
                              have hk227_1 : (eeN ew.2.1 ew.2.2.1 (eeb (ewS ek1 ((16 * z2) + 1) ew.2.2.2) 1)).1 = (eeN ew.2.1 wt2.toNat (eeb (ewS ek1 ((16 * z2) + 1) ew.2.2.2) 1)).1 := by rw [hk227]
                              have hk227_21 : (eeN ew.2.1 ew.2.2.1 (eeb (ewS ek1 ((16 * z2) + 1) ew.2.2.2) 1)).2.1 = (eeN ew.2.1 wt2.toNat (eeb (ewS ek1 ((16 * z2) + 1) ew.2.2.2) 1)).2.1 := by rw [hk227]
                              have hk227_221 : (eeN ew.2.1 ew.2.2.1 (eeb (ewS ek1 ((16 * z2) + 1) ew.2.2.2) 1)).2.2.1 = (eeN ew.2.1 wt2.toNat (eeb (ewS ek1 ((16 * z2) + 1) ew.2.2.2) 1)).2.2.1 := by rw [hk227]
                              have hso228 : gSO ty (eeN ew.2.1 ew.2.2.1 (eeb (ewS ek1 ((16 * z2) + 1) ew.2.2.2) 1)) hq221 := by rw [hk227]; exact yq221_0
                              have hok229 : eeOk (eeN ew.2.1 ew.2.2.1 (eeb (ewS ek1 ((16 * z2) + 1) ew.2.2.2) 1)) := by rw [hk227]; exact yq221_1
                              have hok229c := hok229.cur
                              refine gz_s 2 (pc' := 214) (L' := [some (.ref m), some (.int (zi p)), some (.int (zi a)), some (.int (zi b)), some (.int (zi bt)), some (.int (zi ln)), some (.int (zi 0)), some (.int (zi k2)), some (.int (zi zq73)), some (.int (zi jn84v0))]) (S' := []) rfl ?_
                              have hR : eeRk (ewS ek1) eeN bt cf p a b sg (k2 + 1) = (0, ew.2.1, 0, eeN ew.2.1 ew.2.2.1 (eeb (ewS ek1 ((16 * z2) + 1) ew.2.2.2) 1)) := hRv 1 (if_neg hcv).symm (by decide)
                              have hR_1 : (eeRk (ewS ek1) eeN bt cf p a b sg (k2 + 1)).1 = 0 := by rw [hR]
                              have hR_21 : (eeRk (ewS ek1) eeN bt cf p a b sg (k2 + 1)).2.1 = ew.2.1 := by rw [hR]
                              have hR_221 : (eeRk (ewS ek1) eeN bt cf p a b sg (k2 + 1)).2.2.1 = 0 := by rw [hR]
                              have hk230 : (eeRk (ewS ek1) eeN bt cf p a b sg (k2 + 1)).2.2.2 = eeN ew.2.1 ew.2.2.1 (eeb (ewS ek1 ((16 * z2) + 1) ew.2.2.2) 1) := by rw [hR]
                              have hk230_1 : ((eeRk (ewS ek1) eeN bt cf p a b sg (k2 + 1)).2.2.2).1 = (eeN ew.2.1 ew.2.2.1 (eeb (ewS ek1 ((16 * z2) + 1) ew.2.2.2) 1)).1 := by rw [hk230]
                              have hk230_21 : ((eeRk (ewS ek1) eeN bt cf p a b sg (k2 + 1)).2.2.2).2.1 = (eeN ew.2.1 ew.2.2.1 (eeb (ewS ek1 ((16 * z2) + 1) ew.2.2.2) 1)).2.1 := by rw [hk230]
                              have hk230_221 : ((eeRk (ewS ek1) eeN bt cf p a b sg (k2 + 1)).2.2.2).2.2.1 = (eeN ew.2.1 ew.2.2.1 (eeb (ewS ek1 ((16 * z2) + 1) ew.2.2.2) 1)).2.2.1 := by rw [hk230]
                              have hso231 : gSO ty ((eeRk (ewS ek1) eeN bt cf p a b sg (k2 + 1)).2.2.2) hq221 := by rw [hk230]; exact hso228
                              have hok232 : eeOk ((eeRk (ewS ek1) eeN bt cf p a b sg (k2 + 1)).2.2.2) := by rw [hk230]; exact hok229
                              have hok232c := hok232.cur
                              have hwa233 : gWa ty (eeRk (ewS ek1) eeN bt cf p a b sg (k2 + 1)).2.1 (eeRk (ewS ek1) eeN bt cf p a b sg (k2 + 1)).2.2.1 hq221 := by rw [hR]; exact yq221_2
                              refine gy_s 2 (pc' := 64) (L' := [some (.ref m), some (.int (zi p)), some (.int (zi a)), some (.int (zi b)), some (.int (zi bt)), some (.int (zi ln)), some (.int (zi 0)), some (.int ((zi k2) + zi 1)), some (.int (zi zq73)), some (.int (zi jn84v0))]) (S' := []) (L2 := [some (.ref m), some (.int (zi p)), some (.int (zi a)), some (.int (zi b)), some (.int (zi bt)), some (.int (zi ln)), some (.int (zi 0)), some (.int (zi (k2 + 1))), some (.int (zi zq73)), some (.int (zi jn84v0))]) (S2 := []) rfl (by simp only [zi_add, zi_sub, zi_mul, zi_neg, zi_and1, zi_and7, zi_and15, zi_and31, zi_and255]) (by simp only [zi_add, zi_sub, zi_mul, zi_neg, zi_and1, zi_and7, zi_and15, zi_and31, zi_and255]) ?_
                              clear hAn hAp hzA jn84d hwa220e
                              exact gz_wk (ihlp13 hq221 0 (k2 + 1) fq221_0 fq221_1 fq221_2 fq221_3 (gms lp13m (by omega) (by omega)) sq221 ⟨by omega, by omega⟩ ⟨by omega, by omega⟩ ⟨afq221_0, bfq221_0⟩ ⟨afq221_1, bfq221_1⟩ ⟨afq221_2, bfq221_2⟩ ⟨afq221_3, bfq221_3⟩ (Int.le_antisymm (by omega) (by omega)) (Int.le_antisymm (by omega) (by omega)) (by omega) (by omega) (by omega) (Int.le_antisymm (by omega) (by omega)) (Int.le_antisymm (by omega) (by omega)) (Int.le_antisymm (by omega) (by omega)) (by omega) (by omega) s222 s223 efq221_0 efq221_1 efq221_2 efq221_3 pr224 pr225 hso231 hok232 hwa233) (gLw.s (gLw.s (gLw.s (gLw.s (gLw.s (gLw.s (gLw.s (gLw.s (gLw.n (gLw.n gLw.z))))))))))
                          · refine gy_icF rfl (by decide) (by decide) (by omega) (by omega) hc183 ?_
                            refine gz_s 1 (pc' := 156) (L' := [some (.ref m), some (.int (zi p)), some (.int (zi a)), some (.int (zi b)), some (.int (zi bt)), some (.int (zi ln)), some (.int (zi z2)), some (.int (zi k2)), some (.int (zi zq73)), some (.int (zi jn84v0))]) (S' := [.ref m]) rfl ?_
                            refine gs_gtr rfl (by decide) rfl sh90.1 tm rfl rfl rfl (fun c234 ec234 tc234 => ?_)
                            refine gz_s 1 (pc' := 160) (L' := [some (.ref m), some (.int (zi p)), some (.int (zi a)), some (.int (zi b)), some (.int (zi bt)), some (.int (zi ln)), some (.int (zi z2)), some (.int (zi k2)), some (.int (zi zq73)), some (.int (zi jn84v0))]) (S' := [.ref m, .ref c234]) rfl ?_
                            refine gs_gtk rfl (by decide) rfl sh90.1 tm rfl rfl lp85k5 ?_
                            refine gy_s 3 (pc' := 167) (L' := [some (.ref m), some (.int (zi p)), some (.int (zi a)), some (.int (zi b)), some (.int (zi bt)), some (.int (zi ln)), some (.int (zi z2)), some (.int (zi k2)), some (.int (zi zq73)), some (.int (zi jn84v0))]) (S' := [.int ((zi jn84v0) &&& (zi 1)), .int (zi wt2), .ref c234]) (L2 := [some (.ref m), some (.int (zi p)), some (.int (zi a)), some (.int (zi b)), some (.int (zi bt)), some (.int (zi ln)), some (.int (zi z2)), some (.int (zi k2)), some (.int (zi zq73)), some (.int (zi jn84v0))]) (S2 := [.int (zi (jn84v0 % 2)), .int (zi wt2), .ref c234]) rfl (by simp only [zi_add, zi_sub, zi_mul, zi_neg, zi_and1, zi_and7, zi_and15, zi_and31, zi_and255]) (by simp only [zi_add, zi_sub, zi_mul, zi_neg, zi_and1, zi_and7, zi_and15, zi_and31, zi_and255]) ?_
                            have hl235 : 64 ≤ h90.2.2.2.1 c234 ∧ h90.2.2.2.1 c234 ≤ 64 := gJ.rowl (G := gGG) sh90.1 tc234 rfl
                            refine gs_ast rfl (by decide) sh90 tc234 rfl rfl rfl (by decide) (fun _ => rfl) (by omega) (by omega) (fun _ => (by decide : (42999 : Nat) ∈ ([1059, 1061, 1062, 1075, 32999, 42999] : List Nat))) (by omega) (by omega) (fun h236 sh236 eh236 fh236 => ?_)
                            have pr237 := gTk.pt fh236 tc234 (by decide) (by decide) lp85k6
                            have pr238 := gRn.pt fh236 tc234 (by decide) lp85k7
                            have pr239 := gSO.pt fh236 tc234 (by decide) lp85k8
                            have s240 := (fh236 m 67 (fun q => absurd (((tm).symm.trans (congrArg ty q.1)).trans tc234) (by decide))).trans lp85k0
                            have s241 := (fh236 m 64 (fun q => absurd (((tm).symm.trans (congrArg ty q.1)).trans tc234) (by decide))).trans lp85k1
                            have s242 := (fh236 m 59 (fun q => absurd (((tm).symm.trans (congrArg ty q.1)).trans tc234) (by decide))).trans lp85k2
                            have s243 := (fh236 m 61 (fun q => absurd (((tm).symm.trans (congrArg ty q.1)).trans tc234) (by decide))).trans lp85k3
                            have s244 := (fh236 m 62 (fun q => absurd (((tm).symm.trans (congrArg ty q.1)).trans tc234) (by decide))).trans lp85k4
                            have s245 := (fh236 m 75 (fun q => absurd (((tm).symm.trans (congrArg ty q.1)).trans tc234) (by decide))).trans lp85k5
                            have s246 := (fh236 m 76 (fun q => absurd (((tm).symm.trans (congrArg ty q.1)).trans tc234) (by decide))).trans ec234
                            have pr247 := gEl.set (i := wt2) (z := jn84v0 % 2) uq tc234 (by decide) eh236 (by omega) (by omega)
                            have hwa248 : gWa ty (2 * ew.2.1 + (jn84v0 % 2)) (ew.2.2.1 + 1) h236 := gWa.put (i := wt2) uq tc234 lp85k10 (by omega) ⟨by omega, by omega⟩ (by omega) fh236 eh236
                            refine gz_s 2 (pc' := 170) (L' := [some (.ref m), some (.int (zi p)), some (.int (zi a)), some (.int (zi b)), some (.int (zi bt)), some (.int (zi ln)), some (.int (zi z2)), some (.int (zi k2)), some (.int (zi zq73)), some (.int (zi jn84v0))]) (S' := [.ref m, .ref m]) rfl ?_
                            refine gs_gtk rfl (by decide) rfl sh236.1 tm rfl rfl s245 ?_
                            refine gy_s 2 (pc' := 175) (L' := [some (.ref m), some (.int (zi p)), some (.int (zi a)), some (.int (zi b)), some (.int (zi bt)), some (.int (zi ln)), some (.int (zi z2)), some (.int (zi k2)), some (.int (zi zq73)), some (.int (zi jn84v0))]) (S' := [.int ((zi wt2) + (zi 1)), .ref m]) (L2 := [some (.ref m), some (.int (zi p)), some (.int (zi a)), some (.int (zi b)), some (.int (zi bt)), some (.int (zi ln)), some (.int (zi z2)), some (.int (zi k2)), some (.int (zi zq73)), some (.int (zi jn84v0))]) (S2 := [.int (zi (wt2 + 1)), .ref m]) rfl (by simp only [zi_add, zi_sub, zi_mul, zi_neg, zi_and1, zi_and7, zi_and15, zi_and31, zi_and255]) (by simp only [zi_add, zi_sub, zi_mul, zi_neg, zi_and1, zi_and7, zi_and15, zi_and31, zi_and255]) ?_
                            refine gs_put rfl (by decide) rfl sh236 tm rfl rfl rfl rfl (Or.inl rfl) (by decide) (by omega) (by omega) (fun h249 sh249 eh249 fh249 => ?_)
                            have pr250 := gTk.pt fh249 tm (by decide) (by decide) pr237
                            have pr251 := gRn.pt fh249 tm (by decide) pr238
                            have pr252 := gSO.pt fh249 tm (by decide) pr239
                            have pr253 := gEl.pt fh249 tm (by decide) pr247
                            have pr254 := gWa.pt fh249 tm (by decide) hwa248
                            have s255 := (fh249 m 67 (fun q => absurd q.2 (by decide))).trans s240
                            have s256 := (fh249 m 64 (fun q => absurd q.2 (by decide))).trans s241
                            have s257 := (fh249 m 59 (fun q => absurd q.2 (by decide))).trans s242
                            have s258 := (fh249 m 61 (fun q => absurd q.2 (by decide))).trans s243
                            have s259 := (fh249 m 62 (fun q => absurd q.2 (by decide))).trans s244
                            have s260 := (fh249 m 76 (fun q => absurd q.2 (by decide))).trans s246
                            refine gz_s 1 (pc' := 214) (L' := [some (.ref m), some (.int (zi p)), some (.int (zi a)), some (.int (zi b)), some (.int (zi bt)), some (.int (zi ln)), some (.int (zi z2)), some (.int (zi k2)), some (.int (zi zq73)), some (.int (zi jn84v0))]) (S' := []) rfl ?_
                            have hR : eeRk (ewS ek1) eeN bt cf p a b sg (k2 + 1) = (ew.1, 2 * ew.2.1 + jn84v0 % 2, ew.2.2.1 + 1, ew.2.2.2) := by rw [eeRk_m (a := jn84v0) (x := zr) (y := z2) (by omega) (by omega) (by omega) rfl hn9 (by omega) (by rw [← her]; exact lp13f6) ⟨by omega, by omega⟩ (e_hm (hlq k2 (by omega)) lp85f7 lp85f6 (by omega)), ← her, ← hew]
                            have hR_1 : (eeRk (ewS ek1) eeN bt cf p a b sg (k2 + 1)).1 = ew.1 := by rw [hR]
                            have hR_21 : (eeRk (ewS ek1) eeN bt cf p a b sg (k2 + 1)).2.1 = 2 * ew.2.1 + jn84v0 % 2 := by rw [hR]
                            have hR_221 : (eeRk (ewS ek1) eeN bt cf p a b sg (k2 + 1)).2.2.1 = ew.2.2.1 + 1 := by rw [hR]
                            have hk261 : (eeRk (ewS ek1) eeN bt cf p a b sg (k2 + 1)).2.2.2 = ew.2.2.2 := by rw [hR]
                            have hk261_1 : ((eeRk (ewS ek1) eeN bt cf p a b sg (k2 + 1)).2.2.2).1 = (ew.2.2.2).1 := by rw [hk261]
                            have hk261_21 : ((eeRk (ewS ek1) eeN bt cf p a b sg (k2 + 1)).2.2.2).2.1 = (ew.2.2.2).2.1 := by rw [hk261]
                            have hk261_221 : ((eeRk (ewS ek1) eeN bt cf p a b sg (k2 + 1)).2.2.2).2.2.1 = (ew.2.2.2).2.2.1 := by rw [hk261]
                            have hso262 : gSO ty ((eeRk (ewS ek1) eeN bt cf p a b sg (k2 + 1)).2.2.2) h249 := by rw [hk261]; exact pr252
                            have hok263 : eeOk ((eeRk (ewS ek1) eeN bt cf p a b sg (k2 + 1)).2.2.2) := by rw [hk261]; exact lp85k9
                            have hok263c := hok263.cur
                            have hwa264 : gWa ty (eeRk (ewS ek1) eeN bt cf p a b sg (k2 + 1)).2.1 (eeRk (ewS ek1) eeN bt cf p a b sg (k2 + 1)).2.2.1 h249 := by rw [hR]; exact pr254
                            refine gy_s 2 (pc' := 64) (L' := [some (.ref m), some (.int (zi p)), some (.int (zi a)), some (.int (zi b)), some (.int (zi bt)), some (.int (zi ln)), some (.int (zi z2)), some (.int ((zi k2) + zi 1)), some (.int (zi zq73)), some (.int (zi jn84v0))]) (S' := []) (L2 := [some (.ref m), some (.int (zi p)), some (.int (zi a)), some (.int (zi b)), some (.int (zi bt)), some (.int (zi ln)), some (.int (zi z2)), some (.int (zi (k2 + 1))), some (.int (zi zq73)), some (.int (zi jn84v0))]) (S2 := []) rfl (by simp only [zi_add, zi_sub, zi_mul, zi_neg, zi_and1, zi_and7, zi_and15, zi_and31, zi_and255]) (by simp only [zi_add, zi_sub, zi_mul, zi_neg, zi_and1, zi_and7, zi_and15, zi_and31, zi_and255]) ?_
                            clear hAn hAp hzA jn84d lp85f7 lp85f8
                            exact gz_wk (ihlp13 h249 z2 (k2 + 1) wv2 uv2 bv2 (wt2 + 1) (gms lp13m (by omega) (by omega)) sh249 lp85f0 ⟨by omega, by omega⟩ lp85f1 lp85f2 lp85f3 ⟨by omega, by omega⟩ (Int.le_antisymm (by omega) (by omega)) (Int.le_antisymm (by omega) (by omega)) (by omega) (by omega) (by omega) (Int.le_antisymm (by omega) (by omega)) (Int.le_antisymm (by omega) (by omega)) (Int.le_antisymm (by omega) (by omega)) (by omega) (by omega) s255 s256 s257 s258 s259 eh249 pr250 pr251 hso262 hok263 hwa264) (gLw.s (gLw.s (gLw.s (gLw.s (gLw.s (gLw.s (gLw.s (gLw.s (gLw.n (gLw.n gLw.z))))))))))
                        · refine gy_icF rfl (by decide) (by decide) (by omega) (by omega) hc182 ?_
                          have hkl : k2 ≤ eeLk bt cf p a b := (hlq k2 (by omega)).mp (by omega)
                          refine gz_s 3 (pc' := 121) (L' := [some (.ref m), some (.int (zi p)), some (.int (zi a)), some (.int (zi b)), some (.int (zi bt)), some (.int (zi ln)), some (.int (zi z2)), some (.int (zi k2)), some (.int (zi zq73)), some (.int (zi jn84v0))]) (S' := [.int (zi 240), .int (zi 1), .ref m]) rfl ?_
                          refine gz_call rfl (by decide) rfl (by decide) (by decide) (gcal_of rfl rfl rfl (Nat.le_of_ble_eq_true rfl) (gJ.recv (G := gGG) sh90.1 tm rfl rfl)) (mw_putSymbol1 _ sh90.1 m tm 1 ⟨by omega, by omega⟩ 240 ⟨by omega, by omega⟩ wv2 lp85k2 lp85f1 uv2 lp85k3 lp85f2 bv2 lp85k4 lp85f3 ic lp85k0 ric ew.2.2.2 ek1 (Int.le_antisymm (by omega) (by omega)) (Int.le_antisymm (by omega) (by omega)) (Int.le_antisymm (by omega) (by omega)) (by omega) uq lp85k8 lp85k9 lp85k6) (fun q265 _ wq265 => ?_)
                          obtain ⟨pq265, oq265, hq265⟩ := q265
                          obtain ⟨xq265, fq265_0, fq265_1, fq265_2, gq265, efq265_0, afq265_0, bfq265_0, efq265_1, afq265_1, bfq265_1, efq265_2, afq265_2, bfq265_2, uq265_0, uq265_1, uq265_2, uq265_3, uq265_4, yq265_0, yq265_1⟩ := wq265
                          have ch265a := ch_a lp85f15 uq265_3
                          have ch265b := Int.le_trans lp85f16 uq265_4
                          clear lp85f15 lp85f16 uq265_3 uq265_4 lp85f1 lp85f2 lp85f3 lp85f12 lp85f13 lp85f14
                          refine ⟨_, gq265, ?_⟩
                          show gz gPP gGG gcn _ _ 124 [some (.ref m), some (.int (zi p)), some (.int (zi a)), some (.int (zi b)), some (.int (zi bt)), some (.int (zi ln)), some (.int (zi z2)), some (.int (zi k2)), some (.int (zi zq73)), some (.int (zi jn84v0))] [] hq265 _
                          have sq265 := gSs.tr sh90 xq265 (by decide)
                          have s266 := (xq265.2.2.2.2.2 m 67 (by rw [tm]; decide)).trans lp85k0
                          have s267 := (xq265.2.2.2.2.2 m 64 (by rw [tm]; decide)).trans lp85k1
                          have s268 := (xq265.2.2.2.2.2 m 75 (by rw [tm]; decide)).trans lp85k5
                          have pr269 := gTk.fr xq265.2 (by decide) (by decide) lp85k6
                          have pr270 := gRn.fr xq265.2 (by decide) lp85k7
                          have pr271 := gWa.fr xq265.2 (by decide) lp85k10
                          have hwa272e : (wt2).toNat = ew.2.2.1 := (congrArg Int.toNat lp85f10).trans (Int.toNat_natCast _)
                          have hwa272 : gWa ty ew.2.1 (wt2).toNat hq265 := by rw [hwa272e]; exact pr271
                          refine gz_s 1 (pc' := 125) (L' := [some (.ref m), some (.int (zi p)), some (.int (zi a)), some (.int (zi b)), some (.int (zi bt)), some (.int (zi ln)), some (.int (zi z2)), some (.int (zi k2)), some (.int (zi zq73)), some (.int (zi jn84v0))]) (S' := [.ref m]) rfl ?_
                          refine gz_call rfl (by decide) rfl (by decide) (by decide) (gcal_of rfl rfl rfl (Nat.le_of_ble_eq_true rfl) (gJ.recv (G := gGG) sq265.1 tm rfl rfl)) (mw_putWaiting _ sq265.1 m tm fq265_0 efq265_0 ⟨afq265_0, bfq265_0⟩ fq265_1 efq265_1 ⟨afq265_1, bfq265_1⟩ fq265_2 efq265_2 ⟨afq265_2, bfq265_2⟩ ic s266 ric wt2 s268 lp85f4 (ewS ek1 240 ew.2.2.2) ew.2.1 (Int.le_antisymm (by omega) (by omega)) (Int.le_antisymm (by omega) (by omega)) (Int.le_antisymm (by omega) (by omega)) (by omega) uq yq265_0 yq265_1 hwa272) (fun q273 _ wq273 => ?_)
                          obtain ⟨pq273, oq273, hq273⟩ := q273
                          obtain ⟨xq273, fq273_0, fq273_1, fq273_2, fq273_3, gq273, efq273_0, afq273_0, bfq273_0, efq273_1, afq273_1, bfq273_1, efq273_2, afq273_2, bfq273_2, efq273_3, afq273_3, bfq273_3, uq273_0, uq273_1, uq273_2, uq273_3, uq273_4, uq273_5, yq273_0, yq273_1, yq273_2⟩ := wq273
                          have ch273a := ch_a ch265a uq273_3
                          have ch273b := Int.le_trans ch265b uq273_4
                          clear ch265a ch265b uq273_3 uq273_4 afq265_0 bfq265_0 afq265_1 bfq265_1 afq265_2 bfq265_2 uq265_0 uq265_1 uq265_2
                          refine ⟨_, gq273, ?_⟩
                          show gz gPP gGG gcn _ _ 128 [some (.ref m), some (.int (zi p)), some (.int (zi a)), some (.int (zi b)), some (.int (zi bt)), some (.int (zi ln)), some (.int (zi z2)), some (.int (zi k2)), some (.int (zi zq73)), some (.int (zi jn84v0))] [] hq273 _
                          have sq273 := gSs.tr sq265 xq273 (by decide)
                          have s274 := (xq273.2.2.2.2.2 m 67 (by rw [tm]; decide)).trans s266
                          have s275 := (xq273.2.2.2.2.2 m 64 (by rw [tm]; decide)).trans s267
                          have pr276 := gTk.fr xq273.2 (by decide) (by decide) pr269
                          have pr277 := gRn.fr xq273.2 (by decide) pr270
                          have pr278 := gWa.fr xq273.2 (by decide) hwa272
                          refine gy_s 4 (pc' := 135) (L' := [some (.ref m), some (.int (zi p)), some (.int (zi a)), some (.int (zi b)), some (.int (zi bt)), some (.int (zi ln)), some (.int ((zi z2) - (zi 16))), some (.int (zi k2)), some (.int (zi zq73)), some (.int (zi jn84v0))]) (S' := []) (L2 := [some (.ref m), some (.int (zi p)), some (.int (zi a)), some (.int (zi b)), some (.int (zi bt)), some (.int (zi ln)), some (.int (zi (z2 - 16))), some (.int (zi k2)), some (.int (zi zq73)), some (.int (zi jn84v0))]) (S2 := []) rfl (by simp only [zi_add, zi_sub, zi_mul, zi_neg, zi_and1, zi_and7, zi_and15, zi_and31, zi_and255]) (by simp only [zi_add, zi_sub, zi_mul, zi_neg, zi_and1, zi_and7, zi_and15, zi_and31, zi_and255]) ?_
                          have hk279 : eeN ew.2.1 ew.2.2.1 (ewS ek1 240 ew.2.2.2) = eeN ew.2.1 wt2.toNat (ewS ek1 240 ew.2.2.2) := by rw [hwa272e]
                          have hk279_1 : (eeN ew.2.1 ew.2.2.1 (ewS ek1 240 ew.2.2.2)).1 = (eeN ew.2.1 wt2.toNat (ewS ek1 240 ew.2.2.2)).1 := by rw [hk279]
                          have hk279_21 : (eeN ew.2.1 ew.2.2.1 (ewS ek1 240 ew.2.2.2)).2.1 = (eeN ew.2.1 wt2.toNat (ewS ek1 240 ew.2.2.2)).2.1 := by rw [hk279]
                          have hk279_221 : (eeN ew.2.1 ew.2.2.1 (ewS ek1 240 ew.2.2.2)).2.2.1 = (eeN ew.2.1 wt2.toNat (ewS ek1 240 ew.2.2.2)).2.2.1 := by rw [hk279]
                          have hso280 : gSO ty (eeN ew.2.1 ew.2.2.1 (ewS ek1 240 ew.2.2.2)) hq273 := by rw [hk279]; exact yq273_0
                          have hok281 : eeOk (eeN ew.2.1 ew.2.2.1 (ewS ek1 240 ew.2.2.2)) := by rw [hk279]; exact yq273_1
                          have hok281c := hok281.cur
                          have hR : eeWk (ewS ek1) eeN er zr (z2 - 16) = (ew.1 - 16, ew.2.1, 0, eeN ew.2.1 ew.2.2.1 (ewS ek1 240 ew.2.2.2)) := by rw [eeWk_t (by omega) (by omega) (by omega), ← hew]
                          have hR_1 : (eeWk (ewS ek1) eeN er zr (z2 - 16)).1 = ew.1 - 16 := by rw [hR]
                          have hR_21 : (eeWk (ewS ek1) eeN er zr (z2 - 16)).2.1 = ew.2.1 := by rw [hR]
                          have hR_221 : (eeWk (ewS ek1) eeN er zr (z2 - 16)).2.2.1 = 0 := by rw [hR]
                          have hk282 : (eeWk (ewS ek1) eeN er zr (z2 - 16)).2.2.2 = eeN ew.2.1 ew.2.2.1 (ewS ek1 240 ew.2.2.2) := by rw [hR]
                          have hk282_1 : ((eeWk (ewS ek1) eeN er zr (z2 - 16)).2.2.2).1 = (eeN ew.2.1 ew.2.2.1 (ewS ek1 240 ew.2.2.2)).1 := by rw [hk282]
                          have hk282_21 : ((eeWk (ewS ek1) eeN er zr (z2 - 16)).2.2.2).2.1 = (eeN ew.2.1 ew.2.2.1 (ewS ek1 240 ew.2.2.2)).2.1 := by rw [hk282]
                          have hk282_221 : ((eeWk (ewS ek1) eeN er zr (z2 - 16)).2.2.2).2.2.1 = (eeN ew.2.1 ew.2.2.1 (ewS ek1 240 ew.2.2.2)).2.2.1 := by rw [hk282]
                          have hso283 : gSO ty ((eeWk (ewS ek1) eeN er zr (z2 - 16)).2.2.2) hq273 := by rw [hk282]; exact hso280
                          have hok284 : eeOk ((eeWk (ewS ek1) eeN er zr (z2 - 16)).2.2.2) := by rw [hk282]; exact hok281
                          have hok284c := hok284.cur
                          have hwa285 : gWa ty (eeWk (ewS ek1) eeN er zr (z2 - 16)).2.1 (eeWk (ewS ek1) eeN er zr (z2 - 16)).2.2.1 hq273 := by rw [hR]; exact yq273_2
                          refine gz_s 1 (pc' := 97) (L' := [some (.ref m), some (.int (zi p)), some (.int (zi a)), some (.int (zi b)), some (.int (zi bt)), some (.int (zi ln)), some (.int (zi (z2 - 16))), some (.int (zi k2)), some (.int (zi zq73)), some (.int (zi jn84v0))]) (S' := []) rfl ?_
                          clear hAn hAp hzA jn84d lp85f7 lp85f8 hwa272e
                          exact gz_wk (ihlp85 hq273 (z2 - 16) fq273_0 fq273_1 fq273_2 fq273_3 (gms lp85m (by omega) (by omega)) sq273 ⟨by omega, by omega⟩ ⟨afq273_0, bfq273_0⟩ ⟨afq273_1, bfq273_1⟩ ⟨afq273_2, bfq273_2⟩ ⟨afq273_3, bfq273_3⟩ (by omega) (Int.le_antisymm (by omega) (by omega)) (by omega) (by omega) (Int.le_antisymm (by omega) (by omega)) (Int.le_antisymm (by omega) (by omega)) (by omega) (Int.le_antisymm (by omega) (by omega)) (Int.le_antisymm (by omega) (by omega)) (Int.le_antisymm (by omega) (by omega)) (by omega) (by omega) s274 s275 efq273_0 efq273_1 efq273_2 efq273_3 pr276 pr277 hso283 hok284 hwa285) (gLw.s (gLw.s (gLw.s (gLw.s (gLw.s (gLw.s (gLw.s (gLw.s (gLw.s (gLw.s gLw.z))))))))))
                have hw00 : (eeWk (ewS ek1) eeN er zr zr).1 = er.1 := by rw [eeWk_0]
                have hw01 : (eeWk (ewS ek1) eeN er zr zr).2.2.1 = er.2.2.1 := by rw [eeWk_0]
                exact gz_wk (lp85 _ hq73 zr wv uv bv wt (Nat.lt_succ_self _) sq73 ⟨by omega, by omega⟩ ⟨by omega, by omega⟩ ⟨by omega, by omega⟩ ⟨by omega, by omega⟩ ⟨by omega, by omega⟩ (by omega) (Int.le_antisymm (by omega) (by omega)) (by omega) (by omega) (Int.le_antisymm (by omega) (by omega)) (Int.le_antisymm (by omega) (by omega)) (by omega) (Int.le_antisymm (by omega) (by omega)) (Int.le_antisymm (by omega) (by omega)) (Int.le_antisymm (by omega) (by omega)) (by omega) (by omega) s74 s75 s76 s77 s78 s79 pr80 pr81 hso87 hok88 hwa89) (gLw.s (gLw.s (gLw.s (gLw.s (gLw.s (gLw.s (gLw.s (gLw.s (gLw.s (gLw.s gLw.z))))))))))
              by_cases hc286 : (0 : Int) ≤ zq73
              · refine gy_ifT (pc' := 93) rfl (by decide) (by decide) (by omega) hc286 ?_
                refine gz_s 1 (pc' := 95) (L' := [some (.ref m), some (.int (zi p)), some (.int (zi a)), some (.int (zi b)), some (.int (zi bt)), some (.int (zi ln)), some (.int (zi zr)), some (.int (zi k2)), some (.int (zi zq73)), none]) (S' := [.int (zi zq73)]) rfl ?_
                exact jn84 zq73 (by omega)
              · refine gy_ifF rfl (by decide) (by decide) (by omega) hc286 ?_
                refine gy_s 3 (pc' := 95) (L' := [some (.ref m), some (.int (zi p)), some (.int (zi a)), some (.int (zi b)), some (.int (zi bt)), some (.int (zi ln)), some (.int (zi zr)), some (.int (zi k2)), some (.int (zi zq73)), none]) (S' := [.int (-(zi zq73))]) (L2 := [some (.ref m), some (.int (zi p)), some (.int (zi a)), some (.int (zi b)), some (.int (zi bt)), some (.int (zi ln)), some (.int (zi zr)), some (.int (zi k2)), some (.int (zi zq73)), none]) (S2 := [.int (zi (-zq73))]) rfl (by simp only [zi_add, zi_sub, zi_mul, zi_neg, zi_and1, zi_and7, zi_and15, zi_and31, zi_and255]) (by simp only [zi_add, zi_sub, zi_mul, zi_neg, zi_and1, zi_and7, zi_and15, zi_and31, zi_and255]) ?_
                exact jn84 (-zq73) (by omega)
        have hk00 : (eeRk (ewS ek1) eeN bt cf p a b sg a).1 = 0 := by rw [eeRk_0]
        have hk01 : (eeRk (ewS ek1) eeN bt cf p a b sg a).2.2.1 = 0 := by rw [eeRk_0]
        exact gz_wk (lp13 _ h4 0 a w0 u0 b0 0 (Nat.lt_succ_self _) sh4 ⟨by omega, by omega⟩ ⟨by omega, by omega⟩ ⟨by omega, by omega⟩ ⟨by omega, by omega⟩ ⟨by omega, by omega⟩ ⟨by omega, by omega⟩ (Int.le_antisymm (by omega) (by omega)) (Int.le_antisymm (by omega) (by omega)) (by omega) (by omega) (by omega) (Int.le_antisymm (by omega) (by omega)) (Int.le_antisymm (by omega) (by omega)) (Int.le_antisymm (by omega) (by omega)) (by omega) (by omega) s11 s12 s8 s9 s10 eh4 pr6 pr7 hso15 hok16 hwa18) (gLw.s (gLw.s (gLw.s (gLw.s (gLw.s (gLw.s (gLw.s (gLw.s (gLw.n (gLw.n gLw.z))))))))))
      · refine gy_icF rfl (by decide) (by decide) (by omega) (by omega) hc3 ?_
        refine gy_s 5 (pc' := 21) (L' := [some (.ref m), some (.int (zi p)), some (.int (zi a)), some (.int (zi b)), some (.int (zi bt)), some (.int (zi ln)), some (.int (zi k)), none, none, none]) (S' := [.int (zi bt), .int ((zi p) + (zi k)), .ref m]) (L2 := [some (.ref m), some (.int (zi p)), some (.int (zi a)), some (.int (zi b)), some (.int (zi bt)), some (.int (zi ln)), some (.int (zi k)), none, none, none]) (S2 := [.int (zi bt), .int (zi (p + k)), .ref m]) rfl (by simp only [zi_add, zi_sub, zi_mul, zi_neg, zi_and1, zi_and7, zi_and15, zi_and31, zi_and255]) (by simp only [zi_add, zi_sub, zi_mul, zi_neg, zi_and1, zi_and7, zi_and15, zi_and31, zi_and255]) ?_
        refine gz_call rfl (by decide) rfl (by decide) (by decide) (gcal_of rfl rfl rfl (Nat.le_of_ble_eq_true rfl) (gJ.recv (G := gGG) sh2.1 tm rfl rfl)) (mw_shifted _ sh2.1 m tm (p + k) ⟨by omega, by omega⟩ bt rbt mb lp1k4 rmb cf (by omega) uq lp1k8) (fun q287 _ wq287 => ?_)
        obtain ⟨pq287, oq287, hq287⟩ := q287
        obtain ⟨xq287, zq287, gq287, aq287, bq287, uq287_0⟩ := wq287
        refine ⟨_, gq287, ?_⟩
        show gz gPP gGG gcn _ _ 24 [some (.ref m), some (.int (zi p)), some (.int (zi a)), some (.int (zi b)), some (.int (zi bt)), some (.int (zi ln)), some (.int (zi k)), none, none, none] [.int (zi zq287)] hq287 _
        have sq287 := gSs.tr sh2 xq287 (by decide)
        have s288 := (xq287.2.2.2.2.2 m 59 (by rw [tm]; decide)).trans lp1k0
        have s289 := (xq287.2.2.2.2.2 m 61 (by rw [tm]; decide)).trans lp1k1
        have s290 := (xq287.2.2.2.2.2 m 62 (by rw [tm]; decide)).trans lp1k2
        have s291 := (xq287.2.2.2.2.2 m 67 (by rw [tm]; decide)).trans lp1k3
        have s292 := (xq287.2.2.2.2.2 m 64 (by rw [tm]; decide)).trans lp1k4
        have pr293 := gSO.fr xq287.2 (by decide) lp1k5
        have pr294 := gTk.fr xq287.2 (by decide) (by decide) lp1k7
        have pr295 := gRn.fr xq287.2 (by decide) lp1k8
        have hbj : (p + a).toNat + (k - a).toNat = (p + k).toNat := by omega
        have hcf : cf ((p + a).toNat + (k - a).toNat) = cf (p + k).toNat := by rw [hbj]
        have hkj : (k + 1 - a).toNat = (k - a).toNat + 1 := by omega
        obtain ⟨hA, hAn, hAp⟩ := e_shA uq287_0
        have hzA : eeA zq287 = if zq287 < 0 then -zq287 else zq287 := rfl
        have hkf : (a : Int) + ((k - a).toNat : Nat) = k := by omega
        refine gz_s 3 (pc' := 29) (L' := [some (.ref m), some (.int (zi p)), some (.int (zi a)), some (.int (zi b)), some (.int (zi bt)), some (.int (zi ln)), some (.int (zi k)), some (.int (zi zq287)), none, none]) (S' := [.int (zi 1), .int (zi zq287)]) rfl ?_
        have jn296 : ∀ (jn296v0 : Int), (((zq287 = 1 ∨ zq287 = -1) → jn296v0 = k) ∧ (¬ (zq287 = 1 ∨ zq287 = -1) → jn296v0 = ln)) → gz gPP gGG gcn (d + 3) gt199 45 [some (.ref m), some (.int (zi p)), some (.int (zi a)), some (.int (zi b)), some (.int (zi bt)), some (.int (zi ln)), some (.int (zi k)), some (.int (zi zq287)), none, none] [.int (zi jn296v0)] hq287 (fun q _ => gSs rT 1027 ty [1059, 1061, 1062, 1075, 32999, 42999] h q.2.2 ∧ ∃ w1 u1 b1 : Int, gfin gt199 q.1 q.2.1 = some none ∧ q.2.2.2.2.2.2 m 59 = .int (zi w1) ∧ 0 ≤ w1 ∧ w1 ≤ 60000 ∧ q.2.2.2.2.2.2 m 61 = .int (zi u1) ∧ 0 ≤ u1 ∧ u1 ≤ 127 ∧ q.2.2.2.2.2.2 m 62 = .int (zi b1) ∧ 0 ≤ b1 ∧ b1 ≤ 7 ∧ (w1 = (eeRz (ewS ek1) eeN bt cf p a b sg).1) ∧ (u1 = (eeRz (ewS ek1) eeN bt cf p a b sg).2.1) ∧ (b1 = (eeRz (ewS ek1) eeN bt cf p a b sg).2.2.1) ∧ (4 * w1 + b1 ≤ 4 * w0 + b0 + (35 * (b - a + 1) + 22)) ∧ (w0 ≤ w1) ∧ (gSO ty (eeRz (ewS ek1) eeN bt cf p a b sg) q.2.2) ∧ (eeOk (eeRz (ewS ek1) eeN bt cf p a b sg))) := by
          intro jn296v0 jn296d
          refine gz_s 1 (pc' := 47) (L' := [some (.ref m), some (.int (zi p)), some (.int (zi a)), some (.int (zi b)), some (.int (zi bt)), some (.int (zi jn296v0)), some (.int (zi k)), some (.int (zi zq287)), none, none]) (S' := []) rfl ?_
          have hs : eeLn bt cf (p + a).toNat a ((k + 1) - a).toNat = if eeA zq287 = 1 then k else eeLn bt cf (p + a).toNat a (k - a).toNat := by
            rw [hkj]
            by_cases c9 : eeA zq287 = 1
            · rw [if_pos c9, eeLn_y hcf (by rw [← hA]; exact c9)]; exact hkf
            · rw [if_neg c9, eeLn_n hcf (by rw [← hA]; exact c9)]
          have hlk := (eeLn_b (lw := bt) (cf := cf) (b := (p + a).toNat) (k0 := a) (by omega) (k - a).toNat)
          refine gy_s 2 (pc' := 8) (L' := [some (.ref m), some (.int (zi p)), some (.int (zi a)), some (.int (zi b)), some (.int (zi bt)), some (.int (zi jn296v0)), some (.int ((zi k) + zi 1)), some (.int (zi zq287)), none, none]) (S' := []) (L2 := [some (.ref m), some (.int (zi p)), some (.int (zi a)), some (.int (zi b)), some (.int (zi bt)), some (.int (zi jn296v0)), some (.int (zi (k + 1))), some (.int (zi zq287)), none, none]) (S2 := []) rfl (by simp only [zi_add, zi_sub, zi_mul, zi_neg, zi_and1, zi_and7, zi_and15, zi_and31, zi_and255]) (by simp only [zi_add, zi_sub, zi_mul, zi_neg, zi_and1, zi_and7, zi_and15, zi_and31, zi_and255]) ?_
          exact gz_wk (ihlp1 hq287 jn296v0 (k + 1) (gms lp1m (by omega) (by omega)) sq287 ⟨by omega, by omega⟩ ⟨by omega, by omega⟩ (by omega) (by omega) (by omega) (by omega) (by omega) s288 s289 s290 s291 s292 pr293 lp1k6 pr294 pr295) (gLw.s (gLw.s (gLw.s (gLw.s (gLw.s (gLw.s (gLw.s (gLw.n (gLw.n (gLw.n gLw.z))))))))))
        by_cases hc297 : (zq287 : Int) = 1
        · refine gy_icT (pc' := 38) rfl (by decide) (by decide) (by omega) (by omega) hc297 ?_
          refine gz_s 2 (pc' := 45) (L' := [some (.ref m), some (.int (zi p)), some (.int (zi a)), some (.int (zi b)), some (.int (zi bt)), some (.int (zi ln)), some (.int (zi k)), some (.int (zi zq287)), none, none]) (S' := [.int (zi k)]) rfl ?_
          exact jn296 k (by omega)
        · refine gy_icF rfl (by decide) (by decide) (by omega) (by omega) hc297 ?_
          refine gz_s 2 (pc' := 35) (L' := [some (.ref m), some (.int (zi p)), some (.int (zi a)), some (.int (zi b)), some (.int (zi bt)), some (.int (zi ln)), some (.int (zi k)), some (.int (zi zq287)), none, none]) (S' := [.int (zi (-1)), .int (zi zq287)]) rfl ?_
          by_cases hc298 : ¬ (zq287 : Int) = (-1)
          · refine gy_icT (pc' := 43) rfl (by decide) (by decide) (by omega) (by omega) hc298 ?_
            refine gz_s 1 (pc' := 45) (L' := [some (.ref m), some (.int (zi p)), some (.int (zi a)), some (.int (zi b)), some (.int (zi bt)), some (.int (zi ln)), some (.int (zi k)), some (.int (zi zq287)), none, none]) (S' := [.int (zi ln)]) rfl ?_
            exact jn296 ln (by omega)
          · refine gy_icF rfl (by decide) (by decide) (by omega) (by omega) hc298 ?_
            refine gz_s 2 (pc' := 45) (L' := [some (.ref m), some (.int (zi p)), some (.int (zi a)), some (.int (zi b)), some (.int (zi bt)), some (.int (zi ln)), some (.int (zi k)), some (.int (zi zq287)), none, none]) (S' := [.int (zi k)]) rfl ?_
            exact jn296 k (by omega)
  have hl0 : eeLn bt cf (p + a).toNat a (a - a).toNat = -1 := by rw [show (a - a).toNat = 0 by omega]; rfl
  exact gz_wk (lp1 _ h (a - 1) a (Nat.lt_succ_self _) hS ⟨by omega, by omega⟩ ⟨by omega, by omega⟩ (by omega) (by omega) (by omega) (by omega) (by omega) ew0 eu0 eb0 eic emb hyso hyok hytk1 hyf33) (gLw.s (gLw.s (gLw.s (gLw.s (gLw.s (gLw.s (gLw.s (gLw.n (gLw.n (gLw.n gLw.z))))))))))
