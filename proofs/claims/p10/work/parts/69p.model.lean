/-! ===== the model: methods (by program) ===== -/
set_option maxRecDepth 20000 in
set_option maxHeartbeats 4000000 in
theorem mm_shifted2 (d : Nat) {ty : Nat → Nat} {h : gH} (hJ : gJ rT 1027 ty h) (m : Nat) (tm : ty m = 1) (p : Int) (rp : 0 ≤ p ∧ p ≤ 1023) (b : Int) (rb : 0 ≤ b ∧ b ≤ 3) : gz gPP gGG gcn (d + 0) gt198 0 (gent [.ref m, .int (zi p), .int (zi b)] 4) [] h (fun q _ => gSs rT 1027 ty [] h q.2.2 ∧ ∃ z : Int, gfin gt198 q.1 q.2.1 = some (some (.int (zi z))) ∧ (-2048) ≤ z ∧ z ≤ 2048 ∧ (gSh ty p b z q.2.2)) := by
  have hS : gSs rT 1027 ty [] h h := gSs.rf hJ
  refine gz_s 1 (pc' := 1) (L' := [some (.ref m), some (.int (zi p)), some (.int (zi b)), none]) (S' := [.ref m]) rfl ?_
  refine gs_gtr rfl (by decide) rfl hS.1 tm rfl rfl rfl (fun c1 ec1 tc1 => ?_)
  refine gz_s 1 (pc' := 5) (L' := [some (.ref m), some (.int (zi p)), some (.int (zi b)), none]) (S' := [.int (zi p), .ref c1]) rfl ?_
  have hl2 : 1024 ≤ h.2.2.2.1 c1 ∧ h.2.2.2.1 c1 ≤ 1024 := gJ.rowl (G := gGG) hS.1 tc1 rfl
  refine gs_ald rfl (by decide) hS.1 tc1 rfl rfl rfl (by decide) (fun _ => rfl) (by omega) (by omega) (fun z3 ez3 az3 bz3 => ?_)
  refine gz_s 4 (pc' := 10) (L' := [some (.ref m), some (.int (zi p)), some (.int (zi b)), some (.int (zi z3))]) (S' := [.int (zi b), .int (zi 1), .int (zi z3)]) rfl ?_
  refine gy_sh1x rfl (by decide) (by omega) (fun az4 bz4 => ?_)
  refine gy_dvv rfl (by decide) (by omega) (by omega) (fun z5 az5 bz5 cz5 => ?_)
  exact gz_end (I := .ireturn) (len := 1) rfl (Or.inl rfl) ⟨hS, z5, rfl, (by omega), (by omega), ⟨c1, z3, tc1, ez3, by omega, by omega, az5⟩⟩
set_option maxRecDepth 20000 in
set_option maxHeartbeats 4000000 in
theorem mm_putMore (d : Nat) {ty : Nat → Nat} {h : gH} (hJ : gJ rT 1027 ty h) (m : Nat) (tm : ty m = 1) (p : Int) (rp : 0 ≤ p ∧ p ≤ 960) (a : Int) (ra : 1 ≤ a ∧ a ≤ 63) (b : Int) (rb : 0 ≤ b ∧ b ≤ 63) (bt : Int) (rbt : 0 ≤ bt ∧ bt ≤ 3) (w0 : Int) (ew0 : h.2.2.2.2 m 59 = .int (zi w0)) (rw0 : 0 ≤ w0 ∧ w0 ≤ 60000) (b0 : Int) (eb0 : h.2.2.2.2 m 62 = .int (zi b0)) (rb0 : 0 ≤ b0 ∧ b0 ≤ 7) (ic : Int) (eic : h.2.2.2.2 m 67 = .int (zi ic)) (ric : 0 ≤ ic ∧ ic ≤ 1) (so0 : Int) (rso0 : 0 ≤ so0 ∧ so0 ≤ 3500) (pp0 : w0 ≤ 58000) (pp1 : a ≤ b + 1) (uq : gUq ty) (hyof : gOf ty so0 h) : gz gPP gGG gcn (d + 3) gt199 0 (gent [.ref m, .int (zi p), .int (zi a), .int (zi b), .int (zi bt)] 10) [] h (fun q _ => gSs rT 1027 ty [1059, 1061, 1062, 1075, 32999, 36999, 42999] h q.2.2 ∧ ∃ w1 b1 so1 : Int, gfin gt199 q.1 q.2.1 = some none ∧ q.2.2.2.2.2.2 m 59 = .int (zi w1) ∧ 0 ≤ w1 ∧ w1 ≤ 60000 ∧ q.2.2.2.2.2.2 m 62 = .int (zi b1) ∧ 0 ≤ b1 ∧ b1 ≤ 7 ∧ 0 ≤ so1 ∧ so1 ≤ 3700 ∧ (4 * w1 + b1 + 22 * so1 ≤ 4 * w0 + b0 + 22 * so0 + 35 * (b - a + 1) + 22) ∧ (w0 ≤ w1) ∧ (so0 ≤ so1) ∧ (ic = 0 → (w1 = w0 ∧ b1 = b0)) ∧ (ic = 1 → so1 = so0) ∧ (gOf ty so1 q.2.2)) := by
  have hS : gSs rT 1027 ty [1059, 1061, 1062, 1075, 32999, 36999, 42999] h h := gSs.rf hJ
  refine gy_s 6 (pc' := 8) (L' := [some (.ref m), some (.int (zi p)), some (.int (zi a)), some (.int (zi b)), some (.int (zi bt)), some (.int ((zi a) - (zi 1))), some (.int (zi a)), none, none, none]) (S' := []) (L2 := [some (.ref m), some (.int (zi p)), some (.int (zi a)), some (.int (zi b)), some (.int (zi bt)), some (.int (zi (a - 1))), some (.int (zi a)), none, none, none]) (S2 := []) rfl (by simp only [zi_add, zi_sub, zi_mul, zi_neg, zi_and1, zi_and7, zi_and15, zi_and31, zi_and255]) (by simp only [zi_add, zi_sub, zi_mul, zi_neg, zi_and1, zi_and7, zi_and15, zi_and31, zi_and255]) ?_
  have lp1 : ∀ (fu : Nat) (h2 : gH) (ln : Int) (k : Int), (65 - k).toNat < fu → gSs rT 1027 ty [1059, 1061, 1062, 1075, 32999, 36999, 42999] h h2 → (0 ≤ ln ∧ ln ≤ 63) → (1 ≤ k ∧ k ≤ 64) → (ln < k) → (a ≤ k) → (k ≤ b + 1) → h2.2.2.2.2 m 59 = .int (zi w0) → h2.2.2.2.2 m 62 = .int (zi b0) → h2.2.2.2.2 m 67 = .int (zi ic) → gOf ty so0 h2 → gLn ty p a bt k ln h2 → gz gPP gGG gcn (d + 3) gt199 8 [some (.ref m), some (.int (zi p)), some (.int (zi a)), some (.int (zi b)), some (.int (zi bt)), some (.int (zi ln)), some (.int (zi k)), none, none, none] [] h2 (fun q _ => gSs rT 1027 ty [1059, 1061, 1062, 1075, 32999, 36999, 42999] h q.2.2 ∧ ∃ w1 b1 so1 : Int, gfin gt199 q.1 q.2.1 = some none ∧ q.2.2.2.2.2.2 m 59 = .int (zi w1) ∧ 0 ≤ w1 ∧ w1 ≤ 60000 ∧ q.2.2.2.2.2.2 m 62 = .int (zi b1) ∧ 0 ≤ b1 ∧ b1 ≤ 7 ∧ 0 ≤ so1 ∧ so1 ≤ 3700 ∧ (4 * w1 + b1 + 22 * so1 ≤ 4 * w0 + b0 + 22 * so0 + 35 * (b - a + 1) + 22) ∧ (w0 ≤ w1) ∧ (so0 ≤ so1) ∧ (ic = 0 → (w1 = w0 ∧ b1 = b0)) ∧ (ic = 1 → so1 = so0) ∧ (gOf ty so1 q.2.2)) := by
    intro fu
    induction fu with
    | zero => intro h2 ln k hm; exact absurd hm (Nat.not_lt_zero _)
    | succ fu ihlp1 =>
      intro h2 ln k lp1m sh2 lp1f0 lp1f1 lp1f2 lp1f3 lp1f4 lp1k0 lp1k1 lp1k2 lp1k3 lp1k4
      refine gz_s 2 (pc' := 11) (L' := [some (.ref m), some (.int (zi p)), some (.int (zi a)), some (.int (zi b)), some (.int (zi bt)), some (.int (zi ln)), some (.int (zi k)), none, none, none]) (S' := [.int (zi b), .int (zi k)]) rfl ?_
      by_cases hc3 : (b : Int) < k
      · refine gy_icT (pc' := 53) rfl (by decide) (by decide) (by omega) (by omega) hc3 ?_
        refine gz_s 4 (pc' := 58) (L' := [some (.ref m), some (.int (zi p)), some (.int (zi a)), some (.int (zi b)), some (.int (zi bt)), some (.int (zi ln)), some (.int (zi 0)), none, none, none]) (S' := [.int (zi 0), .ref m]) rfl ?_
        refine gs_put rfl (by decide) rfl sh2 tm rfl rfl rfl rfl (Or.inl rfl) (by decide) (by omega) (by omega) (fun h4 sh4 eh4 fh4 => ?_)
        have pr5 := gOf.pt fh4 tm (by decide) lp1k3
        have pr6 := gLn.pt fh4 tm (by decide) lp1k4
        have s7 := (fh4 m 59 (fun q => absurd q.2 (by decide))).trans lp1k0
        have s8 := (fh4 m 62 (fun q => absurd q.2 (by decide))).trans lp1k1
        have s9 := (fh4 m 67 (fun q => absurd q.2 (by decide))).trans lp1k2
        refine gz_s 2 (pc' := 64) (L' := [some (.ref m), some (.int (zi p)), some (.int (zi a)), some (.int (zi b)), some (.int (zi bt)), some (.int (zi ln)), some (.int (zi 0)), some (.int (zi a)), none, none]) (S' := []) rfl ?_
        have lp10 : ∀ (fu : Nat) (h11 : gH) (zr : Int) (k2 : Int) (wv : Int) (bv : Int) (wt : Int) (sov : Int), (65 - k2).toNat < fu → gSs rT 1027 ty [1059, 1061, 1062, 1075, 32999, 36999, 42999] h h11 → (0 ≤ zr ∧ zr ≤ 63) → (1 ≤ k2 ∧ k2 ≤ 64) → (0 ≤ wv ∧ wv ≤ 60000) → (0 ≤ bv ∧ bv ≤ 7) → (0 ≤ wt ∧ wt ≤ 64) → (0 ≤ sov ∧ sov ≤ 3900) → (4 * wv + bv + 22 * sov + 35 * zr + wt ≤ 4 * w0 + b0 + 22 * so0 + 35 * (k2 - a)) → (w0 ≤ wv) → (so0 ≤ sov) → (ic = 0 → (wv = w0 ∧ bv = b0)) → (ic = 1 → sov = so0) → (zr ≤ k2 - a) → (wt ≤ k2 - a) → (a ≤ k2) → (k2 ≤ b + 1) → h11.2.2.2.2 m 67 = .int (zi ic) → h11.2.2.2.2 m 59 = .int (zi wv) → h11.2.2.2.2 m 62 = .int (zi bv) → h11.2.2.2.2 m 75 = .int (zi wt) → gLn ty p a bt k ln h11 → gOf ty sov h11 → gz gPP gGG gcn (d + 3) gt199 64 [some (.ref m), some (.int (zi p)), some (.int (zi a)), some (.int (zi b)), some (.int (zi bt)), some (.int (zi ln)), some (.int (zi zr)), some (.int (zi k2)), none, none] [] h11 (fun q _ => gSs rT 1027 ty [1059, 1061, 1062, 1075, 32999, 36999, 42999] h q.2.2 ∧ ∃ w1 b1 so1 : Int, gfin gt199 q.1 q.2.1 = some none ∧ q.2.2.2.2.2.2 m 59 = .int (zi w1) ∧ 0 ≤ w1 ∧ w1 ≤ 60000 ∧ q.2.2.2.2.2.2 m 62 = .int (zi b1) ∧ 0 ≤ b1 ∧ b1 ≤ 7 ∧ 0 ≤ so1 ∧ so1 ≤ 3700 ∧ (4 * w1 + b1 + 22 * so1 ≤ 4 * w0 + b0 + 22 * so0 + 35 * (b - a + 1) + 22) ∧ (w0 ≤ w1) ∧ (so0 ≤ so1) ∧ (ic = 0 → (w1 = w0 ∧ b1 = b0)) ∧ (ic = 1 → so1 = so0) ∧ (gOf ty so1 q.2.2)) := by
          intro fu
          induction fu with
          | zero => intro h11 zr k2 wv bv wt sov hm; exact absurd hm (Nat.not_lt_zero _)
          | succ fu ihlp10 =>
            intro h11 zr k2 wv bv wt sov lp10m sh11 lp10f0 lp10f1 lp10f2 lp10f3 lp10f4 lp10f5 lp10f6 lp10f7 lp10f8 lp10f9 lp10f10 lp10f11 lp10f12 lp10f13 lp10f14 lp10k0 lp10k1 lp10k2 lp10k3 lp10k4 lp10k5
            refine gz_s 2 (pc' := 67) (L' := [some (.ref m), some (.int (zi p)), some (.int (zi a)), some (.int (zi b)), some (.int (zi bt)), some (.int (zi ln)), some (.int (zi zr)), some (.int (zi k2)), none, none]) (S' := [.int (zi b), .int (zi k2)]) rfl ?_
            by_cases hc12 : (b : Int) < k2
            · refine gy_icT (pc' := 220) rfl (by decide) (by decide) (by omega) (by omega) hc12 ?_
              refine gz_s 1 (pc' := 222) (L' := [some (.ref m), some (.int (zi p)), some (.int (zi a)), some (.int (zi b)), some (.int (zi bt)), some (.int (zi ln)), some (.int (zi zr)), some (.int (zi k2)), none, none]) (S' := [.int (zi zr)]) rfl ?_
              by_cases hc13 : (0 : Int) < zr
              · refine gy_ifT (pc' := 232) rfl (by decide) (by decide) (by omega) hc13 ?_
                refine gz_s 3 (pc' := 235) (L' := [some (.ref m), some (.int (zi p)), some (.int (zi a)), some (.int (zi b)), some (.int (zi bt)), some (.int (zi ln)), some (.int (zi zr)), some (.int (zi k2)), none, none]) (S' := [.int (zi 0), .int (zi 1), .ref m]) rfl ?_
                refine gz_call rfl (by decide) rfl (by decide) (by decide) (gcal_of rfl rfl rfl (Nat.le_of_ble_eq_true rfl) (gJ.recv (G := gGG) sh11.1 tm rfl rfl)) (mm_putSymbol _ sh11.1 m tm 1 (by omega) 0 (by omega) wv lp10k1 (by omega) bv lp10k2 (by omega) ic lp10k0 (by omega) sov (by omega) (by omega) uq lp10k5) (fun q14 _ wq14 => ?_)
                obtain ⟨pq14, oq14, hq14⟩ := q14
                obtain ⟨xq14, fq14_0, fq14_1, xq14_0, gq14, efq14_0, afq14_0, bfq14_0, efq14_1, afq14_1, bfq14_1, axq14_0, bxq14_0, uq14_0, uq14_1, uq14_2, uq14_3, uq14_4, yq14_0⟩ := wq14
                refine ⟨_, gq14, ?_⟩
                show gz gPP gGG gcn _ _ 238 [some (.ref m), some (.int (zi p)), some (.int (zi a)), some (.int (zi b)), some (.int (zi bt)), some (.int (zi ln)), some (.int (zi zr)), some (.int (zi k2)), none, none] [] hq14 _
                have sq14 := gSs.tr sh11 xq14 (by decide)
                have s15 := (xq14.2.2.2.2.2 m 67 (by rw [tm]; decide)).trans lp10k0
                have s16 := (xq14.2.2.2.2.2 m 75 (by rw [tm]; decide)).trans lp10k3
                have pr17 := gLn.fr xq14.2 (by decide) lp10k4
                refine gz_s 1 (pc' := 239) (L' := [some (.ref m), some (.int (zi p)), some (.int (zi a)), some (.int (zi b)), some (.int (zi bt)), some (.int (zi ln)), some (.int (zi zr)), some (.int (zi k2)), none, none]) (S' := [.ref m]) rfl ?_
                refine gz_call rfl (by decide) rfl (by decide) (by decide) (gcal_of rfl rfl rfl (Nat.le_of_ble_eq_true rfl) (gJ.recv (G := gGG) sq14.1 tm rfl rfl)) (mm_putWaiting2 _ sq14.1 m tm fq14_0 efq14_0 (by omega) fq14_1 efq14_1 (by omega) ic s15 (by omega) wt s16 (by omega) (by omega)) (fun q18 _ wq18 => ?_)
                obtain ⟨pq18, oq18, hq18⟩ := q18
                obtain ⟨xq18, fq18_0, fq18_1, fq18_2, gq18, efq18_0, afq18_0, bfq18_0, efq18_1, afq18_1, bfq18_1, efq18_2, afq18_2, bfq18_2, uq18_0, uq18_1, uq18_2, uq18_3⟩ := wq18
                refine ⟨_, gq18, ?_⟩
                show gz gPP gGG gcn _ _ 242 [some (.ref m), some (.int (zi p)), some (.int (zi a)), some (.int (zi b)), some (.int (zi bt)), some (.int (zi ln)), some (.int (zi zr)), some (.int (zi k2)), none, none] [] hq18 _
                have sq18 := gSs.tr sq14 xq18 (by decide)
                have s19 := (xq18.2.2.2.2.2 m 67 (by rw [tm]; decide)).trans s15
                have pr20 := gLn.fr xq18.2 (by decide) pr17
                have pr21 := gOf.fr xq18.2 (by decide) yq14_0
                exact gz_end (I := .return_) (len := 1) rfl (Or.inl rfl) ⟨sq18, fq18_0, fq18_1, xq14_0, rfl, efq18_0, (by omega), (by omega), efq18_1, (by omega), (by omega), (by omega), (by omega), (by omega), (by omega), (by omega), (by omega), (by omega), pr21⟩
              · refine gy_ifF rfl (by decide) (by decide) (by omega) hc13 ?_
                refine gz_s 1 (pc' := 226) (L' := [some (.ref m), some (.int (zi p)), some (.int (zi a)), some (.int (zi b)), some (.int (zi bt)), some (.int (zi ln)), some (.int (zi zr)), some (.int (zi k2)), none, none]) (S' := [.ref m]) rfl ?_
                refine gs_gtk rfl (by decide) rfl sh11.1 tm rfl rfl lp10k3 ?_
                by_cases hc22 : (wt : Int) ≤ 0
                · refine gy_ifT (pc' := 238) rfl (by decide) (by decide) (by omega) hc22 ?_
                  refine gz_s 1 (pc' := 239) (L' := [some (.ref m), some (.int (zi p)), some (.int (zi a)), some (.int (zi b)), some (.int (zi bt)), some (.int (zi ln)), some (.int (zi zr)), some (.int (zi k2)), none, none]) (S' := [.ref m]) rfl ?_
                  refine gz_call rfl (by decide) rfl (by decide) (by decide) (gcal_of rfl rfl rfl (Nat.le_of_ble_eq_true rfl) (gJ.recv (G := gGG) sh11.1 tm rfl rfl)) (mm_putWaiting2 _ sh11.1 m tm wv lp10k1 (by omega) bv lp10k2 (by omega) ic lp10k0 (by omega) wt lp10k3 (by omega) (by omega)) (fun q23 _ wq23 => ?_)
                  obtain ⟨pq23, oq23, hq23⟩ := q23
                  obtain ⟨xq23, fq23_0, fq23_1, fq23_2, gq23, efq23_0, afq23_0, bfq23_0, efq23_1, afq23_1, bfq23_1, efq23_2, afq23_2, bfq23_2, uq23_0, uq23_1, uq23_2, uq23_3⟩ := wq23
                  refine ⟨_, gq23, ?_⟩
                  show gz gPP gGG gcn _ _ 242 [some (.ref m), some (.int (zi p)), some (.int (zi a)), some (.int (zi b)), some (.int (zi bt)), some (.int (zi ln)), some (.int (zi zr)), some (.int (zi k2)), none, none] [] hq23 _
                  have sq23 := gSs.tr sh11 xq23 (by decide)
                  have s24 := (xq23.2.2.2.2.2 m 67 (by rw [tm]; decide)).trans lp10k0
                  have pr25 := gLn.fr xq23.2 (by decide) lp10k4
                  have pr26 := gOf.fr xq23.2 (by decide) lp10k5
                  exact gz_end (I := .return_) (len := 1) rfl (Or.inl rfl) ⟨sq23, fq23_0, fq23_1, sov, rfl, efq23_0, (by omega), (by omega), efq23_1, (by omega), (by omega), (by omega), (by omega), (by omega), (by omega), (by omega), (by omega), (by omega), pr26⟩
                · refine gy_ifF rfl (by decide) (by decide) (by omega) hc22 ?_
                  refine gz_s 3 (pc' := 235) (L' := [some (.ref m), some (.int (zi p)), some (.int (zi a)), some (.int (zi b)), some (.int (zi bt)), some (.int (zi ln)), some (.int (zi zr)), some (.int (zi k2)), none, none]) (S' := [.int (zi 0), .int (zi 1), .ref m]) rfl ?_
                  refine gz_call rfl (by decide) rfl (by decide) (by decide) (gcal_of rfl rfl rfl (Nat.le_of_ble_eq_true rfl) (gJ.recv (G := gGG) sh11.1 tm rfl rfl)) (mm_putSymbol _ sh11.1 m tm 1 (by omega) 0 (by omega) wv lp10k1 (by omega) bv lp10k2 (by omega) ic lp10k0 (by omega) sov (by omega) (by omega) uq lp10k5) (fun q27 _ wq27 => ?_)
                  obtain ⟨pq27, oq27, hq27⟩ := q27
                  obtain ⟨xq27, fq27_0, fq27_1, xq27_0, gq27, efq27_0, afq27_0, bfq27_0, efq27_1, afq27_1, bfq27_1, axq27_0, bxq27_0, uq27_0, uq27_1, uq27_2, uq27_3, uq27_4, yq27_0⟩ := wq27
                  refine ⟨_, gq27, ?_⟩
                  show gz gPP gGG gcn _ _ 238 [some (.ref m), some (.int (zi p)), some (.int (zi a)), some (.int (zi b)), some (.int (zi bt)), some (.int (zi ln)), some (.int (zi zr)), some (.int (zi k2)), none, none] [] hq27 _
                  have sq27 := gSs.tr sh11 xq27 (by decide)
                  have s28 := (xq27.2.2.2.2.2 m 67 (by rw [tm]; decide)).trans lp10k0
                  have s29 := (xq27.2.2.2.2.2 m 75 (by rw [tm]; decide)).trans lp10k3
                  have pr30 := gLn.fr xq27.2 (by decide) lp10k4
                  refine gz_s 1 (pc' := 239) (L' := [some (.ref m), some (.int (zi p)), some (.int (zi a)), some (.int (zi b)), some (.int (zi bt)), some (.int (zi ln)), some (.int (zi zr)), some (.int (zi k2)), none, none]) (S' := [.ref m]) rfl ?_
                  refine gz_call rfl (by decide) rfl (by decide) (by decide) (gcal_of rfl rfl rfl (Nat.le_of_ble_eq_true rfl) (gJ.recv (G := gGG) sq27.1 tm rfl rfl)) (mm_putWaiting2 _ sq27.1 m tm fq27_0 efq27_0 (by omega) fq27_1 efq27_1 (by omega) ic s28 (by omega) wt s29 (by omega) (by omega)) (fun q31 _ wq31 => ?_)
                  obtain ⟨pq31, oq31, hq31⟩ := q31
                  obtain ⟨xq31, fq31_0, fq31_1, fq31_2, gq31, efq31_0, afq31_0, bfq31_0, efq31_1, afq31_1, bfq31_1, efq31_2, afq31_2, bfq31_2, uq31_0, uq31_1, uq31_2, uq31_3⟩ := wq31
                  refine ⟨_, gq31, ?_⟩
                  show gz gPP gGG gcn _ _ 242 [some (.ref m), some (.int (zi p)), some (.int (zi a)), some (.int (zi b)), some (.int (zi bt)), some (.int (zi ln)), some (.int (zi zr)), some (.int (zi k2)), none, none] [] hq31 _
                  have sq31 := gSs.tr sq27 xq31 (by decide)
                  have s32 := (xq31.2.2.2.2.2 m 67 (by rw [tm]; decide)).trans s28
                  have pr33 := gLn.fr xq31.2 (by decide) pr30
                  have pr34 := gOf.fr xq31.2 (by decide) yq27_0
                  exact gz_end (I := .return_) (len := 1) rfl (Or.inl rfl) ⟨sq31, fq31_0, fq31_1, xq27_0, rfl, efq31_0, (by omega), (by omega), efq31_1, (by omega), (by omega), (by omega), (by omega), (by omega), (by omega), (by omega), (by omega), (by omega), pr34⟩
            · refine gy_icF rfl (by decide) (by decide) (by omega) (by omega) hc12 ?_
              refine gy_s 5 (pc' := 77) (L' := [some (.ref m), some (.int (zi p)), some (.int (zi a)), some (.int (zi b)), some (.int (zi bt)), some (.int (zi ln)), some (.int (zi zr)), some (.int (zi k2)), none, none]) (S' := [.int (zi bt), .int ((zi p) + (zi k2)), .ref m]) (L2 := [some (.ref m), some (.int (zi p)), some (.int (zi a)), some (.int (zi b)), some (.int (zi bt)), some (.int (zi ln)), some (.int (zi zr)), some (.int (zi k2)), none, none]) (S2 := [.int (zi bt), .int (zi (p + k2)), .ref m]) rfl (by simp only [zi_add, zi_sub, zi_mul, zi_neg, zi_and1, zi_and7, zi_and15, zi_and31, zi_and255]) (by simp only [zi_add, zi_sub, zi_mul, zi_neg, zi_and1, zi_and7, zi_and15, zi_and31, zi_and255]) ?_
              refine gz_call rfl (by decide) rfl (by decide) (by decide) (gcal_of rfl rfl rfl (Nat.le_of_ble_eq_true rfl) (gJ.recv (G := gGG) sh11.1 tm rfl rfl)) (mm_shifted2 _ sh11.1 m tm (p + k2) (by omega) bt (by omega) ) (fun q35 _ wq35 => ?_)
              obtain ⟨pq35, oq35, hq35⟩ := q35
              obtain ⟨xq35, zq35, gq35, aq35, bq35, yq35_0⟩ := wq35
              refine ⟨_, gq35, ?_⟩
              show gz gPP gGG gcn _ _ 80 [some (.ref m), some (.int (zi p)), some (.int (zi a)), some (.int (zi b)), some (.int (zi bt)), some (.int (zi ln)), some (.int (zi zr)), some (.int (zi k2)), none, none] [.int (zi zq35)] hq35 _
              have sq35 := gSs.tr sh11 xq35 (by decide)
              have s36 := (xq35.2.2.2.2.2 m 67 (by rw [tm]; decide)).trans lp10k0
              have s37 := (xq35.2.2.2.2.2 m 59 (by rw [tm]; decide)).trans lp10k1
              have s38 := (xq35.2.2.2.2.2 m 62 (by rw [tm]; decide)).trans lp10k2
              have s39 := (xq35.2.2.2.2.2 m 75 (by rw [tm]; decide)).trans lp10k3
              have pr40 := gLn.fr xq35.2 (by decide) lp10k4
              have pr41 := gOf.fr xq35.2 (by decide) lp10k5
              have hk1 : zq35 = 1 ∨ zq35 = -1 → k2 ≤ ln := fun hz => pr40 k2 (by omega) (by omega) zq35 yq35_0 hz
              refine gz_s 2 (pc' := 84) (L' := [some (.ref m), some (.int (zi p)), some (.int (zi a)), some (.int (zi b)), some (.int (zi bt)), some (.int (zi ln)), some (.int (zi zr)), some (.int (zi k2)), some (.int (zi zq35)), none]) (S' := [.int (zi zq35)]) rfl ?_
              have jn42 : ∀ (jn42v0 : Int), ((0 ≤ jn42v0) ∧ (jn42v0 ≤ 2048) ∧ (0 ≤ zq35 → jn42v0 = zq35) ∧ (zq35 < 0 → jn42v0 = -zq35)) → gz gPP gGG gcn (d + 3) gt199 95 [some (.ref m), some (.int (zi p)), some (.int (zi a)), some (.int (zi b)), some (.int (zi bt)), some (.int (zi ln)), some (.int (zi zr)), some (.int (zi k2)), some (.int (zi zq35)), none] [.int (zi jn42v0)] hq35 (fun q _ => gSs rT 1027 ty [1059, 1061, 1062, 1075, 32999, 36999, 42999] h q.2.2 ∧ ∃ w1 b1 so1 : Int, gfin gt199 q.1 q.2.1 = some none ∧ q.2.2.2.2.2.2 m 59 = .int (zi w1) ∧ 0 ≤ w1 ∧ w1 ≤ 60000 ∧ q.2.2.2.2.2.2 m 62 = .int (zi b1) ∧ 0 ≤ b1 ∧ b1 ≤ 7 ∧ 0 ≤ so1 ∧ so1 ≤ 3700 ∧ (4 * w1 + b1 + 22 * so1 ≤ 4 * w0 + b0 + 22 * so0 + 35 * (b - a + 1) + 22) ∧ (w0 ≤ w1) ∧ (so0 ≤ so1) ∧ (ic = 0 → (w1 = w0 ∧ b1 = b0)) ∧ (ic = 1 → so1 = so0) ∧ (gOf ty so1 q.2.2)) := by
                intro jn42v0 jn42d
                refine gz_s 1 (pc' := 97) (L' := [some (.ref m), some (.int (zi p)), some (.int (zi a)), some (.int (zi b)), some (.int (zi bt)), some (.int (zi ln)), some (.int (zi zr)), some (.int (zi k2)), some (.int (zi zq35)), some (.int (zi jn42v0))]) (S' := []) rfl ?_
                have lp43 : ∀ (fu : Nat) (h44 : gH) (z2 : Int) (wv2 : Int) (bv2 : Int) (wt2 : Int) (sov2 : Int), (z2 + 1).toNat < fu → gSs rT 1027 ty [1059, 1061, 1062, 1075, 32999, 36999, 42999] h h44 → (0 ≤ z2 ∧ z2 ≤ 63) → (0 ≤ wv2 ∧ wv2 ≤ 60000) → (0 ≤ bv2 ∧ bv2 ≤ 7) → (0 ≤ wt2 ∧ wt2 ≤ 64) → (0 ≤ sov2 ∧ sov2 ≤ 3900) → (4 * wv2 + bv2 + 22 * sov2 + 35 * z2 + wt2 ≤ 4 * w0 + b0 + 22 * so0 + 35 * (k2 - a)) → (w0 ≤ wv2) → (so0 ≤ sov2) → (ic = 0 → (wv2 = w0 ∧ bv2 = b0)) → (ic = 1 → sov2 = so0) → (z2 ≤ k2 - a) → (wt2 ≤ k2 - a) → h44.2.2.2.2 m 67 = .int (zi ic) → h44.2.2.2.2 m 59 = .int (zi wv2) → h44.2.2.2.2 m 62 = .int (zi bv2) → h44.2.2.2.2 m 75 = .int (zi wt2) → gLn ty p a bt k ln h44 → gSh ty (p + k2) bt zq35 h44 → gOf ty sov2 h44 → gz gPP gGG gcn (d + 3) gt199 97 [some (.ref m), some (.int (zi p)), some (.int (zi a)), some (.int (zi b)), some (.int (zi bt)), some (.int (zi ln)), some (.int (zi z2)), some (.int (zi k2)), some (.int (zi zq35)), some (.int (zi jn42v0))] [] h44 (fun q _ => gSs rT 1027 ty [1059, 1061, 1062, 1075, 32999, 36999, 42999] h q.2.2 ∧ ∃ w1 b1 so1 : Int, gfin gt199 q.1 q.2.1 = some none ∧ q.2.2.2.2.2.2 m 59 = .int (zi w1) ∧ 0 ≤ w1 ∧ w1 ≤ 60000 ∧ q.2.2.2.2.2.2 m 62 = .int (zi b1) ∧ 0 ≤ b1 ∧ b1 ≤ 7 ∧ 0 ≤ so1 ∧ so1 ≤ 3700 ∧ (4 * w1 + b1 + 22 * so1 ≤ 4 * w0 + b0 + 22 * so0 + 35 * (b - a + 1) + 22) ∧ (w0 ≤ w1) ∧ (so0 ≤ so1) ∧ (ic = 0 → (w1 = w0 ∧ b1 = b0)) ∧ (ic = 1 → so1 = so0) ∧ (gOf ty so1 q.2.2)) := by
                  intro fu
                  induction fu with
                  | zero => intro h44 z2 wv2 bv2 wt2 sov2 hm; exact absurd hm (Nat.not_lt_zero _)
                  | succ fu ihlp43 =>
                    intro h44 z2 wv2 bv2 wt2 sov2 lp43m sh44 lp43f0 lp43f1 lp43f2 lp43f3 lp43f4 lp43f5 lp43f6 lp43f7 lp43f8 lp43f9 lp43f10 lp43f11 lp43k0 lp43k1 lp43k2 lp43k3 lp43k4 lp43k5 lp43k6
                    refine gz_s 1 (pc' := 99) (L' := [some (.ref m), some (.int (zi p)), some (.int (zi a)), some (.int (zi b)), some (.int (zi bt)), some (.int (zi ln)), some (.int (zi z2)), some (.int (zi k2)), some (.int (zi zq35)), some (.int (zi jn42v0))]) (S' := [.int (zi jn42v0)]) rfl ?_
                    by_cases hc45 : (jn42v0 : Int) ≤ 0
                    · refine gy_ifT (pc' := 138) rfl (by decide) (by decide) (by omega) hc45 ?_
                      refine gz_s 1 (pc' := 140) (L' := [some (.ref m), some (.int (zi p)), some (.int (zi a)), some (.int (zi b)), some (.int (zi bt)), some (.int (zi ln)), some (.int (zi z2)), some (.int (zi k2)), some (.int (zi zq35)), some (.int (zi jn42v0))]) (S' := [.int (zi jn42v0)]) rfl ?_
                      refine gy_ifF rfl (by decide) (by decide) (by omega) (by first | (simp [zc]; done) | (simp only [zc]; omega)) ?_
                      refine gy_s 4 (pc' := 64) (L' := [some (.ref m), some (.int (zi p)), some (.int (zi a)), some (.int (zi b)), some (.int (zi bt)), some (.int (zi ln)), some (.int ((zi z2) + zi 1)), some (.int ((zi k2) + zi 1)), some (.int (zi zq35)), some (.int (zi jn42v0))]) (S' := []) (L2 := [some (.ref m), some (.int (zi p)), some (.int (zi a)), some (.int (zi b)), some (.int (zi bt)), some (.int (zi ln)), some (.int (zi (z2 + 1))), some (.int (zi (k2 + 1))), some (.int (zi zq35)), some (.int (zi jn42v0))]) (S2 := []) rfl (by simp only [zi_add, zi_sub, zi_mul, zi_neg, zi_and1, zi_and7, zi_and15, zi_and31, zi_and255]) (by simp only [zi_add, zi_sub, zi_mul, zi_neg, zi_and1, zi_and7, zi_and15, zi_and31, zi_and255]) ?_
                      exact gz_wk (ihlp10 h44 (z2 + 1) (k2 + 1) wv2 bv2 wt2 sov2 (by omega) sh44 (by omega) (by omega) (by omega) (by omega) (by omega) (by omega) (by omega) (by omega) (by omega) (by omega) (by omega) (by omega) (by omega) (by omega) (by omega) lp43k0 lp43k1 lp43k2 lp43k3 lp43k4 lp43k6) (gLw.s (gLw.s (gLw.s (gLw.s (gLw.s (gLw.s (gLw.s (gLw.s (gLw.n (gLw.n gLw.z))))))))))
                    · refine gy_ifF rfl (by decide) (by decide) (by omega) hc45 ?_
                      refine gz_s 2 (pc' := 106) (L' := [some (.ref m), some (.int (zi p)), some (.int (zi a)), some (.int (zi b)), some (.int (zi bt)), some (.int (zi ln)), some (.int (zi z2)), some (.int (zi k2)), some (.int (zi zq35)), some (.int (zi jn42v0))]) (S' := [.int (zi 15), .int (zi z2)]) rfl ?_
                      by_cases hc46 : (z2 : Int) ≤ 15
                      · refine gy_icT (pc' := 138) rfl (by decide) (by decide) (by omega) (by omega) hc46 ?_
                        refine gz_s 1 (pc' := 140) (L' := [some (.ref m), some (.int (zi p)), some (.int (zi a)), some (.int (zi b)), some (.int (zi bt)), some (.int (zi ln)), some (.int (zi z2)), some (.int (zi k2)), some (.int (zi zq35)), some (.int (zi jn42v0))]) (S' := [.int (zi jn42v0)]) rfl ?_
                        refine gy_ifT (pc' := 149) rfl (by decide) (by decide) (by omega) (by first | (simp [zc]; done) | (simp only [zc]; omega)) ?_
                        refine gz_s 2 (pc' := 152) (L' := [some (.ref m), some (.int (zi p)), some (.int (zi a)), some (.int (zi b)), some (.int (zi bt)), some (.int (zi ln)), some (.int (zi z2)), some (.int (zi k2)), some (.int (zi zq35)), some (.int (zi jn42v0))]) (S' := [.int (zi 1), .int (zi jn42v0)]) rfl ?_
                        by_cases hc47 : (jn42v0 : Int) ≤ 1
                        · refine gy_icT (pc' := 181) rfl (by decide) (by decide) (by omega) (by omega) hc47 ?_
                          refine gy_s 7 (pc' := 190) (L' := [some (.ref m), some (.int (zi p)), some (.int (zi a)), some (.int (zi b)), some (.int (zi bt)), some (.int (zi ln)), some (.int (zi z2)), some (.int (zi k2)), some (.int (zi zq35)), some (.int (zi jn42v0))]) (S' := [.int (((zi 16) * (zi z2)) + (zi 1)), .int (zi 1), .ref m]) (L2 := [some (.ref m), some (.int (zi p)), some (.int (zi a)), some (.int (zi b)), some (.int (zi bt)), some (.int (zi ln)), some (.int (zi z2)), some (.int (zi k2)), some (.int (zi zq35)), some (.int (zi jn42v0))]) (S2 := [.int (zi ((16 * z2) + 1)), .int (zi 1), .ref m]) rfl (by simp only [zi_add, zi_sub, zi_mul, zi_neg, zi_and1, zi_and7, zi_and15, zi_and31, zi_and255]) (by simp only [zi_add, zi_sub, zi_mul, zi_neg, zi_and1, zi_and7, zi_and15, zi_and31, zi_and255]) ?_
                          refine gz_call rfl (by decide) rfl (by decide) (by decide) (gcal_of rfl rfl rfl (Nat.le_of_ble_eq_true rfl) (gJ.recv (G := gGG) sh44.1 tm rfl rfl)) (mm_putSymbol _ sh44.1 m tm 1 (by omega) ((16 * z2) + 1) (by omega) wv2 lp43k1 (by omega) bv2 lp43k2 (by omega) ic lp43k0 (by omega) sov2 (by omega) (by omega) uq lp43k6) (fun q48 _ wq48 => ?_)
                          obtain ⟨pq48, oq48, hq48⟩ := q48
                          obtain ⟨xq48, fq48_0, fq48_1, xq48_0, gq48, efq48_0, afq48_0, bfq48_0, efq48_1, afq48_1, bfq48_1, axq48_0, bxq48_0, uq48_0, uq48_1, uq48_2, uq48_3, uq48_4, yq48_0⟩ := wq48
                          refine ⟨_, gq48, ?_⟩
                          show gz gPP gGG gcn _ _ 193 [some (.ref m), some (.int (zi p)), some (.int (zi a)), some (.int (zi b)), some (.int (zi bt)), some (.int (zi ln)), some (.int (zi z2)), some (.int (zi k2)), some (.int (zi zq35)), some (.int (zi jn42v0))] [] hq48 _
                          have sq48 := gSs.tr sh44 xq48 (by decide)
                          have s49 := (xq48.2.2.2.2.2 m 67 (by rw [tm]; decide)).trans lp43k0
                          have s50 := (xq48.2.2.2.2.2 m 75 (by rw [tm]; decide)).trans lp43k3
                          have pr51 := gLn.fr xq48.2 (by decide) lp43k4
                          have pr52 := gSh.fr xq48.2 (by decide) lp43k5
                          refine gz_s 2 (pc' := 196) (L' := [some (.ref m), some (.int (zi p)), some (.int (zi a)), some (.int (zi b)), some (.int (zi bt)), some (.int (zi ln)), some (.int (zi z2)), some (.int (zi k2)), some (.int (zi zq35)), some (.int (zi jn42v0))]) (S' := [.int (zi zq35), .ref m]) rfl ?_
                          have jn53 : ∀ (jn53v0 : Int), ((0 ≤ jn53v0) ∧ (jn53v0 ≤ 1)) → gz gPP gGG gcn (d + 3) gt199 204 [some (.ref m), some (.int (zi p)), some (.int (zi a)), some (.int (zi b)), some (.int (zi bt)), some (.int (zi ln)), some (.int (zi z2)), some (.int (zi k2)), some (.int (zi zq35)), some (.int (zi jn42v0))] [.int (zi jn53v0), .ref m] hq48 (fun q _ => gSs rT 1027 ty [1059, 1061, 1062, 1075, 32999, 36999, 42999] h q.2.2 ∧ ∃ w1 b1 so1 : Int, gfin gt199 q.1 q.2.1 = some none ∧ q.2.2.2.2.2.2 m 59 = .int (zi w1) ∧ 0 ≤ w1 ∧ w1 ≤ 60000 ∧ q.2.2.2.2.2.2 m 62 = .int (zi b1) ∧ 0 ≤ b1 ∧ b1 ≤ 7 ∧ 0 ≤ so1 ∧ so1 ≤ 3700 ∧ (4 * w1 + b1 + 22 * so1 ≤ 4 * w0 + b0 + 22 * so0 + 35 * (b - a + 1) + 22) ∧ (w0 ≤ w1) ∧ (so0 ≤ so1) ∧ (ic = 0 → (w1 = w0 ∧ b1 = b0)) ∧ (ic = 1 → so1 = so0) ∧ (gOf ty so1 q.2.2)) := by
                            intro jn53v0 jn53d
                            refine gz_call rfl (by decide) rfl (by decide) (by decide) (gcal_of rfl rfl rfl (Nat.le_of_ble_eq_true rfl) (gJ.recv (G := gGG) sq48.1 tm rfl rfl)) (mm_putBit2 _ sq48.1 m tm jn53v0 (by omega) fq48_0 efq48_0 (by omega) fq48_1 efq48_1 (by omega) ic s49 (by omega) (by omega)) (fun q54 _ wq54 => ?_)
                            obtain ⟨pq54, oq54, hq54⟩ := q54
                            obtain ⟨xq54, fq54_0, fq54_1, gq54, efq54_0, afq54_0, bfq54_0, efq54_1, afq54_1, bfq54_1, uq54_0, uq54_1, uq54_2, uq54_3⟩ := wq54
                            refine ⟨_, gq54, ?_⟩
                            show gz gPP gGG gcn _ _ 207 [some (.ref m), some (.int (zi p)), some (.int (zi a)), some (.int (zi b)), some (.int (zi bt)), some (.int (zi ln)), some (.int (zi z2)), some (.int (zi k2)), some (.int (zi zq35)), some (.int (zi jn42v0))] [] hq54 _
                            have sq54 := gSs.tr sq48 xq54 (by decide)
                            have s55 := (xq54.2.2.2.2.2 m 67 (by rw [tm]; decide)).trans s49
                            have s56 := (xq54.2.2.2.2.2 m 75 (by rw [tm]; decide)).trans s50
                            have pr57 := gLn.fr xq54.2 (by decide) pr51
                            have pr58 := gSh.fr xq54.2 (by decide) pr52
                            have pr59 := gOf.fr xq54.2 (by decide) yq48_0
                            refine gz_s 1 (pc' := 208) (L' := [some (.ref m), some (.int (zi p)), some (.int (zi a)), some (.int (zi b)), some (.int (zi bt)), some (.int (zi ln)), some (.int (zi z2)), some (.int (zi k2)), some (.int (zi zq35)), some (.int (zi jn42v0))]) (S' := [.ref m]) rfl ?_
                            refine gz_call rfl (by decide) rfl (by decide) (by decide) (gcal_of rfl rfl rfl (Nat.le_of_ble_eq_true rfl) (gJ.recv (G := gGG) sq54.1 tm rfl rfl)) (mm_putWaiting2 _ sq54.1 m tm fq54_0 efq54_0 (by omega) fq54_1 efq54_1 (by omega) ic s55 (by omega) wt2 s56 (by omega) (by omega)) (fun q60 _ wq60 => ?_)
                            obtain ⟨pq60, oq60, hq60⟩ := q60
                            obtain ⟨xq60, fq60_0, fq60_1, fq60_2, gq60, efq60_0, afq60_0, bfq60_0, efq60_1, afq60_1, bfq60_1, efq60_2, afq60_2, bfq60_2, uq60_0, uq60_1, uq60_2, uq60_3⟩ := wq60
                            refine ⟨_, gq60, ?_⟩
                            show gz gPP gGG gcn _ _ 211 [some (.ref m), some (.int (zi p)), some (.int (zi a)), some (.int (zi b)), some (.int (zi bt)), some (.int (zi ln)), some (.int (zi z2)), some (.int (zi k2)), some (.int (zi zq35)), some (.int (zi jn42v0))] [] hq60 _
                            have sq60 := gSs.tr sq54 xq60 (by decide)
                            have s61 := (xq60.2.2.2.2.2 m 67 (by rw [tm]; decide)).trans s55
                            have pr62 := gLn.fr xq60.2 (by decide) pr57
                            have pr63 := gSh.fr xq60.2 (by decide) pr58
                            have pr64 := gOf.fr xq60.2 (by decide) pr59
                            refine gy_s 4 (pc' := 64) (L' := [some (.ref m), some (.int (zi p)), some (.int (zi a)), some (.int (zi b)), some (.int (zi bt)), some (.int (zi ln)), some (.int (zi 0)), some (.int ((zi k2) + zi 1)), some (.int (zi zq35)), some (.int (zi jn42v0))]) (S' := []) (L2 := [some (.ref m), some (.int (zi p)), some (.int (zi a)), some (.int (zi b)), some (.int (zi bt)), some (.int (zi ln)), some (.int (zi 0)), some (.int (zi (k2 + 1))), some (.int (zi zq35)), some (.int (zi jn42v0))]) (S2 := []) rfl (by simp only [zi_add, zi_sub, zi_mul, zi_neg, zi_and1, zi_and7, zi_and15, zi_and31, zi_and255]) (by simp only [zi_add, zi_sub, zi_mul, zi_neg, zi_and1, zi_and7, zi_and15, zi_and31, zi_and255]) ?_
                            exact gz_wk (ihlp10 hq60 0 (k2 + 1) fq60_0 fq60_1 fq60_2 xq48_0 (by omega) sq60 (by omega) (by omega) (by omega) (by omega) (by omega) (by omega) (by omega) (by omega) (by omega) (by omega) (by omega) (by omega) (by omega) (by omega) (by omega) s61 efq60_0 efq60_1 efq60_2 pr62 pr64) (gLw.s (gLw.s (gLw.s (gLw.s (gLw.s (gLw.s (gLw.s (gLw.s (gLw.n (gLw.n gLw.z))))))))))
                          by_cases hc65 : (zq35 : Int) ≤ 0
                          · refine gy_ifT (pc' := 203) rfl (by decide) (by decide) (by omega) hc65 ?_
                            refine gz_s 1 (pc' := 204) (L' := [some (.ref m), some (.int (zi p)), some (.int (zi a)), some (.int (zi b)), some (.int (zi bt)), some (.int (zi ln)), some (.int (zi z2)), some (.int (zi k2)), some (.int (zi zq35)), some (.int (zi jn42v0))]) (S' := [.int (zi 0), .ref m]) rfl ?_
                            exact jn53 0 (by omega)
                          · refine gy_ifF rfl (by decide) (by decide) (by omega) hc65 ?_
                            refine gz_s 2 (pc' := 204) (L' := [some (.ref m), some (.int (zi p)), some (.int (zi a)), some (.int (zi b)), some (.int (zi bt)), some (.int (zi ln)), some (.int (zi z2)), some (.int (zi k2)), some (.int (zi zq35)), some (.int (zi jn42v0))]) (S' := [.int (zi 1), .ref m]) rfl ?_
                            exact jn53 1 (by omega)
                        · refine gy_icF rfl (by decide) (by decide) (by omega) (by omega) hc47 ?_
                          refine gz_s 1 (pc' := 156) (L' := [some (.ref m), some (.int (zi p)), some (.int (zi a)), some (.int (zi b)), some (.int (zi bt)), some (.int (zi ln)), some (.int (zi z2)), some (.int (zi k2)), some (.int (zi zq35)), some (.int (zi jn42v0))]) (S' := [.ref m]) rfl ?_
                          refine gs_gtr rfl (by decide) rfl sh44.1 tm rfl rfl rfl (fun c66 ec66 tc66 => ?_)
                          refine gz_s 1 (pc' := 160) (L' := [some (.ref m), some (.int (zi p)), some (.int (zi a)), some (.int (zi b)), some (.int (zi bt)), some (.int (zi ln)), some (.int (zi z2)), some (.int (zi k2)), some (.int (zi zq35)), some (.int (zi jn42v0))]) (S' := [.ref m, .ref c66]) rfl ?_
                          refine gs_gtk rfl (by decide) rfl sh44.1 tm rfl rfl lp43k3 ?_
                          refine gy_s 3 (pc' := 167) (L' := [some (.ref m), some (.int (zi p)), some (.int (zi a)), some (.int (zi b)), some (.int (zi bt)), some (.int (zi ln)), some (.int (zi z2)), some (.int (zi k2)), some (.int (zi zq35)), some (.int (zi jn42v0))]) (S' := [.int ((zi jn42v0) &&& (zi 1)), .int (zi wt2), .ref c66]) (L2 := [some (.ref m), some (.int (zi p)), some (.int (zi a)), some (.int (zi b)), some (.int (zi bt)), some (.int (zi ln)), some (.int (zi z2)), some (.int (zi k2)), some (.int (zi zq35)), some (.int (zi jn42v0))]) (S2 := [.int (zi (jn42v0 % 2)), .int (zi wt2), .ref c66]) rfl (by simp only [zi_add, zi_sub, zi_mul, zi_neg, zi_and1, zi_and7, zi_and15, zi_and31, zi_and255]) (by simp only [zi_add, zi_sub, zi_mul, zi_neg, zi_and1, zi_and7, zi_and15, zi_and31, zi_and255]) ?_
                          have hl67 : 64 ≤ h44.2.2.2.1 c66 ∧ h44.2.2.2.1 c66 ≤ 64 := gJ.rowl (G := gGG) sh44.1 tc66 rfl
                          refine gs_ast rfl (by decide) sh44 tc66 rfl rfl rfl (by decide) (fun _ => rfl) (by omega) (by omega) (fun _ => (by decide : (42999 : Nat) ∈ ([1059, 1061, 1062, 1075, 32999, 36999, 42999] : List Nat))) (by omega) (by omega) (fun h68 sh68 eh68 fh68 => ?_)
                          have pr69 := gLn.pt fh68 tc66 (by decide) lp43k4
                          have pr70 := gSh.pt fh68 tc66 (by decide) lp43k5
                          have pr71 := gOf.pt fh68 tc66 (by decide) lp43k6
                          have s72 := (fh68 m 67 (fun q => absurd (((tm).symm.trans (congrArg ty q.1)).trans tc66) (by decide))).trans lp43k0
                          have s73 := (fh68 m 59 (fun q => absurd (((tm).symm.trans (congrArg ty q.1)).trans tc66) (by decide))).trans lp43k1
                          have s74 := (fh68 m 62 (fun q => absurd (((tm).symm.trans (congrArg ty q.1)).trans tc66) (by decide))).trans lp43k2
                          have s75 := (fh68 m 75 (fun q => absurd (((tm).symm.trans (congrArg ty q.1)).trans tc66) (by decide))).trans lp43k3
                          have s76 := (fh68 m 76 (fun q => absurd (((tm).symm.trans (congrArg ty q.1)).trans tc66) (by decide))).trans ec66
                          have pr77 := gEl.set (i := wt2) (z := jn42v0 % 2) uq tc66 (by decide) eh68 (by omega) (by omega)
                          refine gz_s 2 (pc' := 170) (L' := [some (.ref m), some (.int (zi p)), some (.int (zi a)), some (.int (zi b)), some (.int (zi bt)), some (.int (zi ln)), some (.int (zi z2)), some (.int (zi k2)), some (.int (zi zq35)), some (.int (zi jn42v0))]) (S' := [.ref m, .ref m]) rfl ?_
                          refine gs_gtk rfl (by decide) rfl sh68.1 tm rfl rfl s75 ?_
                          refine gy_s 2 (pc' := 175) (L' := [some (.ref m), some (.int (zi p)), some (.int (zi a)), some (.int (zi b)), some (.int (zi bt)), some (.int (zi ln)), some (.int (zi z2)), some (.int (zi k2)), some (.int (zi zq35)), some (.int (zi jn42v0))]) (S' := [.int ((zi wt2) + (zi 1)), .ref m]) (L2 := [some (.ref m), some (.int (zi p)), some (.int (zi a)), some (.int (zi b)), some (.int (zi bt)), some (.int (zi ln)), some (.int (zi z2)), some (.int (zi k2)), some (.int (zi zq35)), some (.int (zi jn42v0))]) (S2 := [.int (zi (wt2 + 1)), .ref m]) rfl (by simp only [zi_add, zi_sub, zi_mul, zi_neg, zi_and1, zi_and7, zi_and15, zi_and31, zi_and255]) (by simp only [zi_add, zi_sub, zi_mul, zi_neg, zi_and1, zi_and7, zi_and15, zi_and31, zi_and255]) ?_
                          refine gs_put rfl (by decide) rfl sh68 tm rfl rfl rfl rfl (Or.inl rfl) (by decide) (by omega) (by omega) (fun h78 sh78 eh78 fh78 => ?_)
                          have pr79 := gLn.pt fh78 tm (by decide) pr69
                          have pr80 := gSh.pt fh78 tm (by decide) pr70
                          have pr81 := gOf.pt fh78 tm (by decide) pr71
                          have pr82 := gEl.pt fh78 tm (by decide) pr77
                          have s83 := (fh78 m 67 (fun q => absurd q.2 (by decide))).trans s72
                          have s84 := (fh78 m 59 (fun q => absurd q.2 (by decide))).trans s73
                          have s85 := (fh78 m 62 (fun q => absurd q.2 (by decide))).trans s74
                          have s86 := (fh78 m 76 (fun q => absurd q.2 (by decide))).trans s76
                          refine gy_s 3 (pc' := 64) (L' := [some (.ref m), some (.int (zi p)), some (.int (zi a)), some (.int (zi b)), some (.int (zi bt)), some (.int (zi ln)), some (.int (zi z2)), some (.int ((zi k2) + zi 1)), some (.int (zi zq35)), some (.int (zi jn42v0))]) (S' := []) (L2 := [some (.ref m), some (.int (zi p)), some (.int (zi a)), some (.int (zi b)), some (.int (zi bt)), some (.int (zi ln)), some (.int (zi z2)), some (.int (zi (k2 + 1))), some (.int (zi zq35)), some (.int (zi jn42v0))]) (S2 := []) rfl (by simp only [zi_add, zi_sub, zi_mul, zi_neg, zi_and1, zi_and7, zi_and15, zi_and31, zi_and255]) (by simp only [zi_add, zi_sub, zi_mul, zi_neg, zi_and1, zi_and7, zi_and15, zi_and31, zi_and255]) ?_
                          exact gz_wk (ihlp10 h78 z2 (k2 + 1) wv2 bv2 (wt2 + 1) sov2 (by omega) sh78 (by omega) (by omega) (by omega) (by omega) (by omega) (by omega) (by omega) (by omega) (by omega) (by omega) (by omega) (by omega) (by omega) (by omega) (by omega) s83 s84 s85 eh78 pr79 pr81) (gLw.s (gLw.s (gLw.s (gLw.s (gLw.s (gLw.s (gLw.s (gLw.s (gLw.n (gLw.n gLw.z))))))))))
                      · refine gy_icF rfl (by decide) (by decide) (by omega) (by omega) hc46 ?_
                        refine gz_s 2 (pc' := 113) (L' := [some (.ref m), some (.int (zi p)), some (.int (zi a)), some (.int (zi b)), some (.int (zi bt)), some (.int (zi ln)), some (.int (zi z2)), some (.int (zi k2)), some (.int (zi zq35)), some (.int (zi jn42v0))]) (S' := [.int (zi ln), .int (zi k2)]) rfl ?_
                        by_cases hc87 : (ln : Int) < k2
                        · refine gy_icT (pc' := 138) rfl (by decide) (by decide) (by omega) (by omega) hc87 ?_
                          refine gz_s 1 (pc' := 140) (L' := [some (.ref m), some (.int (zi p)), some (.int (zi a)), some (.int (zi b)), some (.int (zi bt)), some (.int (zi ln)), some (.int (zi z2)), some (.int (zi k2)), some (.int (zi zq35)), some (.int (zi jn42v0))]) (S' := [.int (zi jn42v0)]) rfl ?_
                          refine gy_ifT (pc' := 149) rfl (by decide) (by decide) (by omega) (by first | (simp [zc]; done) | (simp only [zc]; omega)) ?_
                          refine gz_s 2 (pc' := 152) (L' := [some (.ref m), some (.int (zi p)), some (.int (zi a)), some (.int (zi b)), some (.int (zi bt)), some (.int (zi ln)), some (.int (zi z2)), some (.int (zi k2)), some (.int (zi zq35)), some (.int (zi jn42v0))]) (S' := [.int (zi 1), .int (zi jn42v0)]) rfl ?_
                          by_cases hc88 : (jn42v0 : Int) ≤ 1
                          · refine gy_icT (pc' := 181) rfl (by decide) (by decide) (by omega) (by omega) hc88 ?_
                            refine gy_s 7 (pc' := 190) (L' := [some (.ref m), some (.int (zi p)), some (.int (zi a)), some (.int (zi b)), some (.int (zi bt)), some (.int (zi ln)), some (.int (zi z2)), some (.int (zi k2)), some (.int (zi zq35)), some (.int (zi jn42v0))]) (S' := [.int (((zi 16) * (zi z2)) + (zi 1)), .int (zi 1), .ref m]) (L2 := [some (.ref m), some (.int (zi p)), some (.int (zi a)), some (.int (zi b)), some (.int (zi bt)), some (.int (zi ln)), some (.int (zi z2)), some (.int (zi k2)), some (.int (zi zq35)), some (.int (zi jn42v0))]) (S2 := [.int (zi ((16 * z2) + 1)), .int (zi 1), .ref m]) rfl (by simp only [zi_add, zi_sub, zi_mul, zi_neg, zi_and1, zi_and7, zi_and15, zi_and31, zi_and255]) (by simp only [zi_add, zi_sub, zi_mul, zi_neg, zi_and1, zi_and7, zi_and15, zi_and31, zi_and255]) ?_
                            refine gz_call rfl (by decide) rfl (by decide) (by decide) (gcal_of rfl rfl rfl (Nat.le_of_ble_eq_true rfl) (gJ.recv (G := gGG) sh44.1 tm rfl rfl)) (mm_putSymbol _ sh44.1 m tm 1 (by omega) ((16 * z2) + 1) (by omega) wv2 lp43k1 (by omega) bv2 lp43k2 (by omega) ic lp43k0 (by omega) sov2 (by omega) (by omega) uq lp43k6) (fun q89 _ wq89 => ?_)
                            obtain ⟨pq89, oq89, hq89⟩ := q89
                            obtain ⟨xq89, fq89_0, fq89_1, xq89_0, gq89, efq89_0, afq89_0, bfq89_0, efq89_1, afq89_1, bfq89_1, axq89_0, bxq89_0, uq89_0, uq89_1, uq89_2, uq89_3, uq89_4, yq89_0⟩ := wq89
                            refine ⟨_, gq89, ?_⟩
                            show gz gPP gGG gcn _ _ 193 [some (.ref m), some (.int (zi p)), some (.int (zi a)), some (.int (zi b)), some (.int (zi bt)), some (.int (zi ln)), some (.int (zi z2)), some (.int (zi k2)), some (.int (zi zq35)), some (.int (zi jn42v0))] [] hq89 _
                            have sq89 := gSs.tr sh44 xq89 (by decide)
                            have s90 := (xq89.2.2.2.2.2 m 67 (by rw [tm]; decide)).trans lp43k0
                            have s91 := (xq89.2.2.2.2.2 m 75 (by rw [tm]; decide)).trans lp43k3
                            have pr92 := gLn.fr xq89.2 (by decide) lp43k4
                            have pr93 := gSh.fr xq89.2 (by decide) lp43k5
                            refine gz_s 2 (pc' := 196) (L' := [some (.ref m), some (.int (zi p)), some (.int (zi a)), some (.int (zi b)), some (.int (zi bt)), some (.int (zi ln)), some (.int (zi z2)), some (.int (zi k2)), some (.int (zi zq35)), some (.int (zi jn42v0))]) (S' := [.int (zi zq35), .ref m]) rfl ?_
                            have jn94 : ∀ (jn94v0 : Int), ((0 ≤ jn94v0) ∧ (jn94v0 ≤ 1)) → gz gPP gGG gcn (d + 3) gt199 204 [some (.ref m), some (.int (zi p)), some (.int (zi a)), some (.int (zi b)), some (.int (zi bt)), some (.int (zi ln)), some (.int (zi z2)), some (.int (zi k2)), some (.int (zi zq35)), some (.int (zi jn42v0))] [.int (zi jn94v0), .ref m] hq89 (fun q _ => gSs rT 1027 ty [1059, 1061, 1062, 1075, 32999, 36999, 42999] h q.2.2 ∧ ∃ w1 b1 so1 : Int, gfin gt199 q.1 q.2.1 = some none ∧ q.2.2.2.2.2.2 m 59 = .int (zi w1) ∧ 0 ≤ w1 ∧ w1 ≤ 60000 ∧ q.2.2.2.2.2.2 m 62 = .int (zi b1) ∧ 0 ≤ b1 ∧ b1 ≤ 7 ∧ 0 ≤ so1 ∧ so1 ≤ 3700 ∧ (4 * w1 + b1 + 22 * so1 ≤ 4 * w0 + b0 + 22 * so0 + 35 * (b - a + 1) + 22) ∧ (w0 ≤ w1) ∧ (so0 ≤ so1) ∧ (ic = 0 → (w1 = w0 ∧ b1 = b0)) ∧ (ic = 1 → so1 = so0) ∧ (gOf ty so1 q.2.2)) := by
                              intro jn94v0 jn94d
                              refine gz_call rfl (by decide) rfl (by decide) (by decide) (gcal_of rfl rfl rfl (Nat.le_of_ble_eq_true rfl) (gJ.recv (G := gGG) sq89.1 tm rfl rfl)) (mm_putBit2 _ sq89.1 m tm jn94v0 (by omega) fq89_0 efq89_0 (by omega) fq89_1 efq89_1 (by omega) ic s90 (by omega) (by omega)) (fun q95 _ wq95 => ?_)
                              obtain ⟨pq95, oq95, hq95⟩ := q95
                              obtain ⟨xq95, fq95_0, fq95_1, gq95, efq95_0, afq95_0, bfq95_0, efq95_1, afq95_1, bfq95_1, uq95_0, uq95_1, uq95_2, uq95_3⟩ := wq95
                              refine ⟨_, gq95, ?_⟩
                              show gz gPP gGG gcn _ _ 207 [some (.ref m), some (.int (zi p)), some (.int (zi a)), some (.int (zi b)), some (.int (zi bt)), some (.int (zi ln)), some (.int (zi z2)), some (.int (zi k2)), some (.int (zi zq35)), some (.int (zi jn42v0))] [] hq95 _
                              have sq95 := gSs.tr sq89 xq95 (by decide)
                              have s96 := (xq95.2.2.2.2.2 m 67 (by rw [tm]; decide)).trans s90
                              have s97 := (xq95.2.2.2.2.2 m 75 (by rw [tm]; decide)).trans s91
                              have pr98 := gLn.fr xq95.2 (by decide) pr92
                              have pr99 := gSh.fr xq95.2 (by decide) pr93
                              have pr100 := gOf.fr xq95.2 (by decide) yq89_0
                              refine gz_s 1 (pc' := 208) (L' := [some (.ref m), some (.int (zi p)), some (.int (zi a)), some (.int (zi b)), some (.int (zi bt)), some (.int (zi ln)), some (.int (zi z2)), some (.int (zi k2)), some (.int (zi zq35)), some (.int (zi jn42v0))]) (S' := [.ref m]) rfl ?_
                              refine gz_call rfl (by decide) rfl (by decide) (by decide) (gcal_of rfl rfl rfl (Nat.le_of_ble_eq_true rfl) (gJ.recv (G := gGG) sq95.1 tm rfl rfl)) (mm_putWaiting2 _ sq95.1 m tm fq95_0 efq95_0 (by omega) fq95_1 efq95_1 (by omega) ic s96 (by omega) wt2 s97 (by omega) (by omega)) (fun q101 _ wq101 => ?_)
                              obtain ⟨pq101, oq101, hq101⟩ := q101
                              obtain ⟨xq101, fq101_0, fq101_1, fq101_2, gq101, efq101_0, afq101_0, bfq101_0, efq101_1, afq101_1, bfq101_1, efq101_2, afq101_2, bfq101_2, uq101_0, uq101_1, uq101_2, uq101_3⟩ := wq101
                              refine ⟨_, gq101, ?_⟩
                              show gz gPP gGG gcn _ _ 211 [some (.ref m), some (.int (zi p)), some (.int (zi a)), some (.int (zi b)), some (.int (zi bt)), some (.int (zi ln)), some (.int (zi z2)), some (.int (zi k2)), some (.int (zi zq35)), some (.int (zi jn42v0))] [] hq101 _
                              have sq101 := gSs.tr sq95 xq101 (by decide)
                              have s102 := (xq101.2.2.2.2.2 m 67 (by rw [tm]; decide)).trans s96
                              have pr103 := gLn.fr xq101.2 (by decide) pr98
                              have pr104 := gSh.fr xq101.2 (by decide) pr99
                              have pr105 := gOf.fr xq101.2 (by decide) pr100
                              refine gy_s 4 (pc' := 64) (L' := [some (.ref m), some (.int (zi p)), some (.int (zi a)), some (.int (zi b)), some (.int (zi bt)), some (.int (zi ln)), some (.int (zi 0)), some (.int ((zi k2) + zi 1)), some (.int (zi zq35)), some (.int (zi jn42v0))]) (S' := []) (L2 := [some (.ref m), some (.int (zi p)), some (.int (zi a)), some (.int (zi b)), some (.int (zi bt)), some (.int (zi ln)), some (.int (zi 0)), some (.int (zi (k2 + 1))), some (.int (zi zq35)), some (.int (zi jn42v0))]) (S2 := []) rfl (by simp only [zi_add, zi_sub, zi_mul, zi_neg, zi_and1, zi_and7, zi_and15, zi_and31, zi_and255]) (by simp only [zi_add, zi_sub, zi_mul, zi_neg, zi_and1, zi_and7, zi_and15, zi_and31, zi_and255]) ?_
                              exact gz_wk (ihlp10 hq101 0 (k2 + 1) fq101_0 fq101_1 fq101_2 xq89_0 (by omega) sq101 (by omega) (by omega) (by omega) (by omega) (by omega) (by omega) (by omega) (by omega) (by omega) (by omega) (by omega) (by omega) (by omega) (by omega) (by omega) s102 efq101_0 efq101_1 efq101_2 pr103 pr105) (gLw.s (gLw.s (gLw.s (gLw.s (gLw.s (gLw.s (gLw.s (gLw.s (gLw.n (gLw.n gLw.z))))))))))
                            by_cases hc106 : (zq35 : Int) ≤ 0
                            · refine gy_ifT (pc' := 203) rfl (by decide) (by decide) (by omega) hc106 ?_
                              refine gz_s 1 (pc' := 204) (L' := [some (.ref m), some (.int (zi p)), some (.int (zi a)), some (.int (zi b)), some (.int (zi bt)), some (.int (zi ln)), some (.int (zi z2)), some (.int (zi k2)), some (.int (zi zq35)), some (.int (zi jn42v0))]) (S' := [.int (zi 0), .ref m]) rfl ?_
                              exact jn94 0 (by omega)
                            · refine gy_ifF rfl (by decide) (by decide) (by omega) hc106 ?_
                              refine gz_s 2 (pc' := 204) (L' := [some (.ref m), some (.int (zi p)), some (.int (zi a)), some (.int (zi b)), some (.int (zi bt)), some (.int (zi ln)), some (.int (zi z2)), some (.int (zi k2)), some (.int (zi zq35)), some (.int (zi jn42v0))]) (S' := [.int (zi 1), .ref m]) rfl ?_
                              exact jn94 1 (by omega)
                          · refine gy_icF rfl (by decide) (by decide) (by omega) (by omega) hc88 ?_
                            refine gz_s 1 (pc' := 156) (L' := [some (.ref m), some (.int (zi p)), some (.int (zi a)), some (.int (zi b)), some (.int (zi bt)), some (.int (zi ln)), some (.int (zi z2)), some (.int (zi k2)), some (.int (zi zq35)), some (.int (zi jn42v0))]) (S' := [.ref m]) rfl ?_
                            refine gs_gtr rfl (by decide) rfl sh44.1 tm rfl rfl rfl (fun c107 ec107 tc107 => ?_)
                            refine gz_s 1 (pc' := 160) (L' := [some (.ref m), some (.int (zi p)), some (.int (zi a)), some (.int (zi b)), some (.int (zi bt)), some (.int (zi ln)), some (.int (zi z2)), some (.int (zi k2)), some (.int (zi zq35)), some (.int (zi jn42v0))]) (S' := [.ref m, .ref c107]) rfl ?_
                            refine gs_gtk rfl (by decide) rfl sh44.1 tm rfl rfl lp43k3 ?_
                            refine gy_s 3 (pc' := 167) (L' := [some (.ref m), some (.int (zi p)), some (.int (zi a)), some (.int (zi b)), some (.int (zi bt)), some (.int (zi ln)), some (.int (zi z2)), some (.int (zi k2)), some (.int (zi zq35)), some (.int (zi jn42v0))]) (S' := [.int ((zi jn42v0) &&& (zi 1)), .int (zi wt2), .ref c107]) (L2 := [some (.ref m), some (.int (zi p)), some (.int (zi a)), some (.int (zi b)), some (.int (zi bt)), some (.int (zi ln)), some (.int (zi z2)), some (.int (zi k2)), some (.int (zi zq35)), some (.int (zi jn42v0))]) (S2 := [.int (zi (jn42v0 % 2)), .int (zi wt2), .ref c107]) rfl (by simp only [zi_add, zi_sub, zi_mul, zi_neg, zi_and1, zi_and7, zi_and15, zi_and31, zi_and255]) (by simp only [zi_add, zi_sub, zi_mul, zi_neg, zi_and1, zi_and7, zi_and15, zi_and31, zi_and255]) ?_
                            have hl108 : 64 ≤ h44.2.2.2.1 c107 ∧ h44.2.2.2.1 c107 ≤ 64 := gJ.rowl (G := gGG) sh44.1 tc107 rfl
                            refine gs_ast rfl (by decide) sh44 tc107 rfl rfl rfl (by decide) (fun _ => rfl) (by omega) (by omega) (fun _ => (by decide : (42999 : Nat) ∈ ([1059, 1061, 1062, 1075, 32999, 36999, 42999] : List Nat))) (by omega) (by omega) (fun h109 sh109 eh109 fh109 => ?_)
                            have pr110 := gLn.pt fh109 tc107 (by decide) lp43k4
                            have pr111 := gSh.pt fh109 tc107 (by decide) lp43k5
                            have pr112 := gOf.pt fh109 tc107 (by decide) lp43k6
                            have s113 := (fh109 m 67 (fun q => absurd (((tm).symm.trans (congrArg ty q.1)).trans tc107) (by decide))).trans lp43k0
                            have s114 := (fh109 m 59 (fun q => absurd (((tm).symm.trans (congrArg ty q.1)).trans tc107) (by decide))).trans lp43k1
                            have s115 := (fh109 m 62 (fun q => absurd (((tm).symm.trans (congrArg ty q.1)).trans tc107) (by decide))).trans lp43k2
                            have s116 := (fh109 m 75 (fun q => absurd (((tm).symm.trans (congrArg ty q.1)).trans tc107) (by decide))).trans lp43k3
                            have s117 := (fh109 m 76 (fun q => absurd (((tm).symm.trans (congrArg ty q.1)).trans tc107) (by decide))).trans ec107
                            have pr118 := gEl.set (i := wt2) (z := jn42v0 % 2) uq tc107 (by decide) eh109 (by omega) (by omega)
                            refine gz_s 2 (pc' := 170) (L' := [some (.ref m), some (.int (zi p)), some (.int (zi a)), some (.int (zi b)), some (.int (zi bt)), some (.int (zi ln)), some (.int (zi z2)), some (.int (zi k2)), some (.int (zi zq35)), some (.int (zi jn42v0))]) (S' := [.ref m, .ref m]) rfl ?_
                            refine gs_gtk rfl (by decide) rfl sh109.1 tm rfl rfl s116 ?_
                            refine gy_s 2 (pc' := 175) (L' := [some (.ref m), some (.int (zi p)), some (.int (zi a)), some (.int (zi b)), some (.int (zi bt)), some (.int (zi ln)), some (.int (zi z2)), some (.int (zi k2)), some (.int (zi zq35)), some (.int (zi jn42v0))]) (S' := [.int ((zi wt2) + (zi 1)), .ref m]) (L2 := [some (.ref m), some (.int (zi p)), some (.int (zi a)), some (.int (zi b)), some (.int (zi bt)), some (.int (zi ln)), some (.int (zi z2)), some (.int (zi k2)), some (.int (zi zq35)), some (.int (zi jn42v0))]) (S2 := [.int (zi (wt2 + 1)), .ref m]) rfl (by simp only [zi_add, zi_sub, zi_mul, zi_neg, zi_and1, zi_and7, zi_and15, zi_and31, zi_and255]) (by simp only [zi_add, zi_sub, zi_mul, zi_neg, zi_and1, zi_and7, zi_and15, zi_and31, zi_and255]) ?_
                            refine gs_put rfl (by decide) rfl sh109 tm rfl rfl rfl rfl (Or.inl rfl) (by decide) (by omega) (by omega) (fun h119 sh119 eh119 fh119 => ?_)
                            have pr120 := gLn.pt fh119 tm (by decide) pr110
                            have pr121 := gSh.pt fh119 tm (by decide) pr111
                            have pr122 := gOf.pt fh119 tm (by decide) pr112
                            have pr123 := gEl.pt fh119 tm (by decide) pr118
                            have s124 := (fh119 m 67 (fun q => absurd q.2 (by decide))).trans s113
                            have s125 := (fh119 m 59 (fun q => absurd q.2 (by decide))).trans s114
                            have s126 := (fh119 m 62 (fun q => absurd q.2 (by decide))).trans s115
                            have s127 := (fh119 m 76 (fun q => absurd q.2 (by decide))).trans s117
                            refine gy_s 3 (pc' := 64) (L' := [some (.ref m), some (.int (zi p)), some (.int (zi a)), some (.int (zi b)), some (.int (zi bt)), some (.int (zi ln)), some (.int (zi z2)), some (.int ((zi k2) + zi 1)), some (.int (zi zq35)), some (.int (zi jn42v0))]) (S' := []) (L2 := [some (.ref m), some (.int (zi p)), some (.int (zi a)), some (.int (zi b)), some (.int (zi bt)), some (.int (zi ln)), some (.int (zi z2)), some (.int (zi (k2 + 1))), some (.int (zi zq35)), some (.int (zi jn42v0))]) (S2 := []) rfl (by simp only [zi_add, zi_sub, zi_mul, zi_neg, zi_and1, zi_and7, zi_and15, zi_and31, zi_and255]) (by simp only [zi_add, zi_sub, zi_mul, zi_neg, zi_and1, zi_and7, zi_and15, zi_and31, zi_and255]) ?_
                            exact gz_wk (ihlp10 h119 z2 (k2 + 1) wv2 bv2 (wt2 + 1) sov2 (by omega) sh119 (by omega) (by omega) (by omega) (by omega) (by omega) (by omega) (by omega) (by omega) (by omega) (by omega) (by omega) (by omega) (by omega) (by omega) (by omega) s124 s125 s126 eh119 pr120 pr122) (gLw.s (gLw.s (gLw.s (gLw.s (gLw.s (gLw.s (gLw.s (gLw.s (gLw.n (gLw.n gLw.z))))))))))
                        · refine gy_icF rfl (by decide) (by decide) (by omega) (by omega) hc87 ?_
                          refine gz_s 3 (pc' := 121) (L' := [some (.ref m), some (.int (zi p)), some (.int (zi a)), some (.int (zi b)), some (.int (zi bt)), some (.int (zi ln)), some (.int (zi z2)), some (.int (zi k2)), some (.int (zi zq35)), some (.int (zi jn42v0))]) (S' := [.int (zi 240), .int (zi 1), .ref m]) rfl ?_
                          refine gz_call rfl (by decide) rfl (by decide) (by decide) (gcal_of rfl rfl rfl (Nat.le_of_ble_eq_true rfl) (gJ.recv (G := gGG) sh44.1 tm rfl rfl)) (mm_putSymbol _ sh44.1 m tm 1 (by omega) 240 (by omega) wv2 lp43k1 (by omega) bv2 lp43k2 (by omega) ic lp43k0 (by omega) sov2 (by omega) (by omega) uq lp43k6) (fun q128 _ wq128 => ?_)
                          obtain ⟨pq128, oq128, hq128⟩ := q128
                          obtain ⟨xq128, fq128_0, fq128_1, xq128_0, gq128, efq128_0, afq128_0, bfq128_0, efq128_1, afq128_1, bfq128_1, axq128_0, bxq128_0, uq128_0, uq128_1, uq128_2, uq128_3, uq128_4, yq128_0⟩ := wq128
                          refine ⟨_, gq128, ?_⟩
                          show gz gPP gGG gcn _ _ 124 [some (.ref m), some (.int (zi p)), some (.int (zi a)), some (.int (zi b)), some (.int (zi bt)), some (.int (zi ln)), some (.int (zi z2)), some (.int (zi k2)), some (.int (zi zq35)), some (.int (zi jn42v0))] [] hq128 _
                          have sq128 := gSs.tr sh44 xq128 (by decide)
                          have s129 := (xq128.2.2.2.2.2 m 67 (by rw [tm]; decide)).trans lp43k0
                          have s130 := (xq128.2.2.2.2.2 m 75 (by rw [tm]; decide)).trans lp43k3
                          have pr131 := gLn.fr xq128.2 (by decide) lp43k4
                          have pr132 := gSh.fr xq128.2 (by decide) lp43k5
                          refine gz_s 1 (pc' := 125) (L' := [some (.ref m), some (.int (zi p)), some (.int (zi a)), some (.int (zi b)), some (.int (zi bt)), some (.int (zi ln)), some (.int (zi z2)), some (.int (zi k2)), some (.int (zi zq35)), some (.int (zi jn42v0))]) (S' := [.ref m]) rfl ?_
                          refine gz_call rfl (by decide) rfl (by decide) (by decide) (gcal_of rfl rfl rfl (Nat.le_of_ble_eq_true rfl) (gJ.recv (G := gGG) sq128.1 tm rfl rfl)) (mm_putWaiting2 _ sq128.1 m tm fq128_0 efq128_0 (by omega) fq128_1 efq128_1 (by omega) ic s129 (by omega) wt2 s130 (by omega) (by omega)) (fun q133 _ wq133 => ?_)
                          obtain ⟨pq133, oq133, hq133⟩ := q133
                          obtain ⟨xq133, fq133_0, fq133_1, fq133_2, gq133, efq133_0, afq133_0, bfq133_0, efq133_1, afq133_1, bfq133_1, efq133_2, afq133_2, bfq133_2, uq133_0, uq133_1, uq133_2, uq133_3⟩ := wq133
                          refine ⟨_, gq133, ?_⟩
                          show gz gPP gGG gcn _ _ 128 [some (.ref m), some (.int (zi p)), some (.int (zi a)), some (.int (zi b)), some (.int (zi bt)), some (.int (zi ln)), some (.int (zi z2)), some (.int (zi k2)), some (.int (zi zq35)), some (.int (zi jn42v0))] [] hq133 _
                          have sq133 := gSs.tr sq128 xq133 (by decide)
                          have s134 := (xq133.2.2.2.2.2 m 67 (by rw [tm]; decide)).trans s129
                          have pr135 := gLn.fr xq133.2 (by decide) pr131
                          have pr136 := gSh.fr xq133.2 (by decide) pr132
                          have pr137 := gOf.fr xq133.2 (by decide) yq128_0
                          refine gy_s 5 (pc' := 97) (L' := [some (.ref m), some (.int (zi p)), some (.int (zi a)), some (.int (zi b)), some (.int (zi bt)), some (.int (zi ln)), some (.int ((zi z2) - (zi 16))), some (.int (zi k2)), some (.int (zi zq35)), some (.int (zi jn42v0))]) (S' := []) (L2 := [some (.ref m), some (.int (zi p)), some (.int (zi a)), some (.int (zi b)), some (.int (zi bt)), some (.int (zi ln)), some (.int (zi (z2 - 16))), some (.int (zi k2)), some (.int (zi zq35)), some (.int (zi jn42v0))]) (S2 := []) rfl (by simp only [zi_add, zi_sub, zi_mul, zi_neg, zi_and1, zi_and7, zi_and15, zi_and31, zi_and255]) (by simp only [zi_add, zi_sub, zi_mul, zi_neg, zi_and1, zi_and7, zi_and15, zi_and31, zi_and255]) ?_
                          exact gz_wk (ihlp43 hq133 (z2 - 16) fq133_0 fq133_1 fq133_2 xq128_0 (by omega) sq133 (by omega) (by omega) (by omega) (by omega) (by omega) (by omega) (by omega) (by omega) (by omega) (by omega) (by omega) (by omega) s134 efq133_0 efq133_1 efq133_2 pr135 pr136 pr137) (gLw.s (gLw.s (gLw.s (gLw.s (gLw.s (gLw.s (gLw.s (gLw.s (gLw.s (gLw.s gLw.z))))))))))
                exact gz_wk (lp43 _ hq35 zr wv bv wt sov (Nat.lt_succ_self _) sq35 (by omega) (by omega) (by omega) (by omega) (by omega) (by omega) (by omega) (by omega) (by omega) (by omega) (by omega) (by omega) s36 s37 s38 s39 pr40 yq35_0 pr41) (gLw.s (gLw.s (gLw.s (gLw.s (gLw.s (gLw.s (gLw.s (gLw.s (gLw.s (gLw.s gLw.z))))))))))
              by_cases hc138 : (0 : Int) ≤ zq35
              · refine gy_ifT (pc' := 93) rfl (by decide) (by decide) (by omega) hc138 ?_
                refine gz_s 1 (pc' := 95) (L' := [some (.ref m), some (.int (zi p)), some (.int (zi a)), some (.int (zi b)), some (.int (zi bt)), some (.int (zi ln)), some (.int (zi zr)), some (.int (zi k2)), some (.int (zi zq35)), none]) (S' := [.int (zi zq35)]) rfl ?_
                exact jn42 zq35 (by omega)
              · refine gy_ifF rfl (by decide) (by decide) (by omega) hc138 ?_
                refine gy_s 3 (pc' := 95) (L' := [some (.ref m), some (.int (zi p)), some (.int (zi a)), some (.int (zi b)), some (.int (zi bt)), some (.int (zi ln)), some (.int (zi zr)), some (.int (zi k2)), some (.int (zi zq35)), none]) (S' := [.int (-(zi zq35))]) (L2 := [some (.ref m), some (.int (zi p)), some (.int (zi a)), some (.int (zi b)), some (.int (zi bt)), some (.int (zi ln)), some (.int (zi zr)), some (.int (zi k2)), some (.int (zi zq35)), none]) (S2 := [.int (zi (-zq35))]) rfl (by simp only [zi_add, zi_sub, zi_mul, zi_neg, zi_and1, zi_and7, zi_and15, zi_and31, zi_and255]) (by simp only [zi_add, zi_sub, zi_mul, zi_neg, zi_and1, zi_and7, zi_and15, zi_and31, zi_and255]) ?_
                exact jn42 (-zq35) (by omega)
        exact gz_wk (lp10 _ h4 0 a w0 b0 0 so0 (Nat.lt_succ_self _) sh4 (by omega) (by omega) (by omega) (by omega) (by omega) (by omega) (by omega) (by omega) (by omega) (by omega) (by omega) (by omega) (by omega) (by omega) (by omega) s9 s7 s8 eh4 pr6 pr5) (gLw.s (gLw.s (gLw.s (gLw.s (gLw.s (gLw.s (gLw.s (gLw.s (gLw.n (gLw.n gLw.z))))))))))
      · refine gy_icF rfl (by decide) (by decide) (by omega) (by omega) hc3 ?_
        refine gy_s 5 (pc' := 21) (L' := [some (.ref m), some (.int (zi p)), some (.int (zi a)), some (.int (zi b)), some (.int (zi bt)), some (.int (zi ln)), some (.int (zi k)), none, none, none]) (S' := [.int (zi bt), .int ((zi p) + (zi k)), .ref m]) (L2 := [some (.ref m), some (.int (zi p)), some (.int (zi a)), some (.int (zi b)), some (.int (zi bt)), some (.int (zi ln)), some (.int (zi k)), none, none, none]) (S2 := [.int (zi bt), .int (zi (p + k)), .ref m]) rfl (by simp only [zi_add, zi_sub, zi_mul, zi_neg, zi_and1, zi_and7, zi_and15, zi_and31, zi_and255]) (by simp only [zi_add, zi_sub, zi_mul, zi_neg, zi_and1, zi_and7, zi_and15, zi_and31, zi_and255]) ?_
        refine gz_call rfl (by decide) rfl (by decide) (by decide) (gcal_of rfl rfl rfl (Nat.le_of_ble_eq_true rfl) (gJ.recv (G := gGG) sh2.1 tm rfl rfl)) (mm_shifted2 _ sh2.1 m tm (p + k) (by omega) bt (by omega) ) (fun q139 _ wq139 => ?_)
        obtain ⟨pq139, oq139, hq139⟩ := q139
        obtain ⟨xq139, zq139, gq139, aq139, bq139, yq139_0⟩ := wq139
        refine ⟨_, gq139, ?_⟩
        show gz gPP gGG gcn _ _ 24 [some (.ref m), some (.int (zi p)), some (.int (zi a)), some (.int (zi b)), some (.int (zi bt)), some (.int (zi ln)), some (.int (zi k)), none, none, none] [.int (zi zq139)] hq139 _
        have sq139 := gSs.tr sh2 xq139 (by decide)
        have s140 := (xq139.2.2.2.2.2 m 59 (by rw [tm]; decide)).trans lp1k0
        have s141 := (xq139.2.2.2.2.2 m 62 (by rw [tm]; decide)).trans lp1k1
        have s142 := (xq139.2.2.2.2.2 m 67 (by rw [tm]; decide)).trans lp1k2
        have pr143 := gOf.fr xq139.2 (by decide) lp1k3
        have pr144 := gLn.fr xq139.2 (by decide) lp1k4
        refine gz_s 3 (pc' := 29) (L' := [some (.ref m), some (.int (zi p)), some (.int (zi a)), some (.int (zi b)), some (.int (zi bt)), some (.int (zi ln)), some (.int (zi k)), some (.int (zi zq139)), none, none]) (S' := [.int (zi 1), .int (zi zq139)]) rfl ?_
        have jn145 : ∀ (jn145v0 : Int), (((zq139 = 1 ∨ zq139 = -1) → jn145v0 = k) ∧ (ln ≤ jn145v0) ∧ (jn145v0 ≤ k)) → gz gPP gGG gcn (d + 3) gt199 45 [some (.ref m), some (.int (zi p)), some (.int (zi a)), some (.int (zi b)), some (.int (zi bt)), some (.int (zi ln)), some (.int (zi k)), some (.int (zi zq139)), none, none] [.int (zi jn145v0)] hq139 (fun q _ => gSs rT 1027 ty [1059, 1061, 1062, 1075, 32999, 36999, 42999] h q.2.2 ∧ ∃ w1 b1 so1 : Int, gfin gt199 q.1 q.2.1 = some none ∧ q.2.2.2.2.2.2 m 59 = .int (zi w1) ∧ 0 ≤ w1 ∧ w1 ≤ 60000 ∧ q.2.2.2.2.2.2 m 62 = .int (zi b1) ∧ 0 ≤ b1 ∧ b1 ≤ 7 ∧ 0 ≤ so1 ∧ so1 ≤ 3700 ∧ (4 * w1 + b1 + 22 * so1 ≤ 4 * w0 + b0 + 22 * so0 + 35 * (b - a + 1) + 22) ∧ (w0 ≤ w1) ∧ (so0 ≤ so1) ∧ (ic = 0 → (w1 = w0 ∧ b1 = b0)) ∧ (ic = 1 → so1 = so0) ∧ (gOf ty so1 q.2.2)) := by
          intro jn145v0 jn145d
          refine gz_s 1 (pc' := 47) (L' := [some (.ref m), some (.int (zi p)), some (.int (zi a)), some (.int (zi b)), some (.int (zi bt)), some (.int (zi jn145v0)), some (.int (zi k)), some (.int (zi zq139)), none, none]) (S' := []) rfl ?_
          have hln146 : gLn ty p a bt (k + 1) jn145v0 hq139 := gLn.step uq pr144 yq139_0 (by omega) (by omega)
          refine gy_s 2 (pc' := 8) (L' := [some (.ref m), some (.int (zi p)), some (.int (zi a)), some (.int (zi b)), some (.int (zi bt)), some (.int (zi jn145v0)), some (.int ((zi k) + zi 1)), some (.int (zi zq139)), none, none]) (S' := []) (L2 := [some (.ref m), some (.int (zi p)), some (.int (zi a)), some (.int (zi b)), some (.int (zi bt)), some (.int (zi jn145v0)), some (.int (zi (k + 1))), some (.int (zi zq139)), none, none]) (S2 := []) rfl (by simp only [zi_add, zi_sub, zi_mul, zi_neg, zi_and1, zi_and7, zi_and15, zi_and31, zi_and255]) (by simp only [zi_add, zi_sub, zi_mul, zi_neg, zi_and1, zi_and7, zi_and15, zi_and31, zi_and255]) ?_
          exact gz_wk (ihlp1 hq139 jn145v0 (k + 1) (by omega) sq139 (by omega) (by omega) (by omega) (by omega) (by omega) s140 s141 s142 pr143 hln146) (gLw.s (gLw.s (gLw.s (gLw.s (gLw.s (gLw.s (gLw.s (gLw.n (gLw.n (gLw.n gLw.z))))))))))
        by_cases hc147 : (zq139 : Int) = 1
        · refine gy_icT (pc' := 38) rfl (by decide) (by decide) (by omega) (by omega) hc147 ?_
          refine gz_s 2 (pc' := 45) (L' := [some (.ref m), some (.int (zi p)), some (.int (zi a)), some (.int (zi b)), some (.int (zi bt)), some (.int (zi ln)), some (.int (zi k)), some (.int (zi zq139)), none, none]) (S' := [.int (zi k)]) rfl ?_
          exact jn145 k (by omega)
        · refine gy_icF rfl (by decide) (by decide) (by omega) (by omega) hc147 ?_
          refine gz_s 2 (pc' := 35) (L' := [some (.ref m), some (.int (zi p)), some (.int (zi a)), some (.int (zi b)), some (.int (zi bt)), some (.int (zi ln)), some (.int (zi k)), some (.int (zi zq139)), none, none]) (S' := [.int (zi (-1)), .int (zi zq139)]) rfl ?_
          by_cases hc148 : ¬ (zq139 : Int) = (-1)
          · refine gy_icT (pc' := 43) rfl (by decide) (by decide) (by omega) (by omega) hc148 ?_
            refine gz_s 1 (pc' := 45) (L' := [some (.ref m), some (.int (zi p)), some (.int (zi a)), some (.int (zi b)), some (.int (zi bt)), some (.int (zi ln)), some (.int (zi k)), some (.int (zi zq139)), none, none]) (S' := [.int (zi ln)]) rfl ?_
            exact jn145 ln (by omega)
          · refine gy_icF rfl (by decide) (by decide) (by omega) (by omega) hc148 ?_
            refine gz_s 2 (pc' := 45) (L' := [some (.ref m), some (.int (zi p)), some (.int (zi a)), some (.int (zi b)), some (.int (zi bt)), some (.int (zi ln)), some (.int (zi k)), some (.int (zi zq139)), none, none]) (S' := [.int (zi k)]) rfl ?_
            exact jn145 k (by omega)
  exact gz_wk (lp1 _ h (a - 1) a (Nat.lt_succ_self _) hS (by omega) (by omega) (by omega) (by omega) (by omega) ew0 eb0 eic hyof gLn.zero) (gLw.s (gLw.s (gLw.s (gLw.s (gLw.s (gLw.s (gLw.s (gLw.n (gLw.n (gLw.n gLw.z))))))))))
set_option maxRecDepth 20000 in
set_option maxHeartbeats 4000000 in
theorem mm_putBlocks (d : Nat) {ty : Nat → Nat} {h : gH} (hJ : gJ rT 1027 ty h) (m : Nat) (tm : ty m = 1) (a : Int) (ra : 0 ≤ a ∧ a ≤ 63) (b : Int) (rb : 0 ≤ b ∧ b ≤ 63) (ov : Int) (rov : 0 ≤ ov ∧ ov ≤ 4) (bt : Int) (rbt : 0 ≤ bt ∧ bt ≤ 3) (w0 : Int) (ew0 : h.2.2.2.2 m 59 = .int (zi w0)) (rw0 : 0 ≤ w0 ∧ w0 ≤ 60000) (b0 : Int) (eb0 : h.2.2.2.2 m 62 = .int (zi b0)) (rb0 : 0 ≤ b0 ∧ b0 ≤ 7) (ic : Int) (eic : h.2.2.2.2 m 67 = .int (zi ic)) (ric : 0 ≤ ic ∧ ic ≤ 1) (mb : Int) (emb : h.2.2.2.2 m 64 = .int (zi mb)) (rmb : 0 ≤ mb ∧ mb ≤ 16) (so0 : Int) (rso0 : 0 ≤ so0 ∧ so0 ≤ 1700) (pp0 : w0 ≤ 48000) (pp1 : a ≤ b) (uq : gUq ty) (hyof : gOf ty so0 h) : gz gPP gGG gcn (d + 4) gt190 0 (gent [.ref m, .int (zi a), .int (zi b), .int (zi ov), .int (zi bt)] 6) [] h (fun q _ => gSs rT 1027 ty [1059, 1061, 1062, 1074, 1075, 32999, 36999, 42999] h q.2.2 ∧ ∃ w1 b1 so1 : Int, gfin gt190 q.1 q.2.1 = some none ∧ q.2.2.2.2.2.2 m 59 = .int (zi w1) ∧ 0 ≤ w1 ∧ w1 ≤ 60000 ∧ q.2.2.2.2.2.2 m 62 = .int (zi b1) ∧ 0 ≤ b1 ∧ b1 ≤ 7 ∧ 0 ≤ so1 ∧ so1 ≤ 3400 ∧ (4 * w1 + b1 + 22 * so1 ≤ 4 * w0 + b0 + 22 * so0 + 16 * (35 * (b - a + 1) + 73)) ∧ (w0 ≤ w1) ∧ (so0 ≤ so1) ∧ (ic = 0 → (w1 = w0 ∧ b1 = b0)) ∧ (ic = 1 → so1 = so0) ∧ (gOf ty so1 q.2.2)) := by
  have hS : gSs rT 1027 ty [1059, 1061, 1062, 1074, 1075, 32999, 36999, 42999] h h := gSs.rf hJ
  refine gz_s 2 (pc' := 2) (L' := [some (.ref m), some (.int (zi a)), some (.int (zi b)), some (.int (zi ov)), some (.int (zi bt)), none]) (S' := [.int (zi 0), .ref m]) rfl ?_
  refine gs_put rfl (by decide) rfl hS tm rfl rfl rfl rfl (Or.inl rfl) (by decide) (by omega) (by omega) (fun h1 sh1 eh1 fh1 => ?_)
  have pr2 := gOf.pt fh1 tm (by decide) hyof
  have s3 := (fh1 m 59 (fun q => absurd q.2 (by decide))).trans ew0
  have s4 := (fh1 m 62 (fun q => absurd q.2 (by decide))).trans eb0
  have s5 := (fh1 m 67 (fun q => absurd q.2 (by decide))).trans eic
  have s6 := (fh1 m 64 (fun q => absurd q.2 (by decide))).trans emb
  refine gz_s 2 (pc' := 8) (L' := [some (.ref m), some (.int (zi a)), some (.int (zi b)), some (.int (zi ov)), some (.int (zi bt)), some (.int (zi 0))]) (S' := []) rfl ?_
  have lp7 : ∀ (fu : Nat) (h8 : gH) (k : Int) (wv : Int) (bv : Int) (sov : Int), (17 - k).toNat < fu → gSs rT 1027 ty [1059, 1061, 1062, 1074, 1075, 32999, 36999, 42999] h h8 → (0 ≤ k ∧ k ≤ 16) → (0 ≤ wv ∧ wv ≤ 60000) → (0 ≤ bv ∧ bv ≤ 7) → (0 ≤ sov ∧ sov ≤ 3400) → (4 * wv + bv + 22 * sov + 0 ≤ 4 * w0 + b0 + 22 * so0 + k * (35 * (b - a + 1) + 73)) → (w0 ≤ wv) → (so0 ≤ sov) → (ic = 0 → (wv = w0 ∧ bv = b0)) → (ic = 1 → sov = so0) → (k ≤ mb) → h8.2.2.2.2 m 67 = .int (zi ic) → h8.2.2.2.2 m 64 = .int (zi mb) → h8.2.2.2.2 m 59 = .int (zi wv) → h8.2.2.2.2 m 62 = .int (zi bv) → gOf ty sov h8 → gz gPP gGG gcn (d + 4) gt190 8 [some (.ref m), some (.int (zi a)), some (.int (zi b)), some (.int (zi ov)), some (.int (zi bt)), some (.int (zi k))] [] h8 (fun q _ => gSs rT 1027 ty [1059, 1061, 1062, 1074, 1075, 32999, 36999, 42999] h q.2.2 ∧ ∃ w1 b1 so1 : Int, gfin gt190 q.1 q.2.1 = some none ∧ q.2.2.2.2.2.2 m 59 = .int (zi w1) ∧ 0 ≤ w1 ∧ w1 ≤ 60000 ∧ q.2.2.2.2.2.2 m 62 = .int (zi b1) ∧ 0 ≤ b1 ∧ b1 ≤ 7 ∧ 0 ≤ so1 ∧ so1 ≤ 3400 ∧ (4 * w1 + b1 + 22 * so1 ≤ 4 * w0 + b0 + 22 * so0 + 16 * (35 * (b - a + 1) + 73)) ∧ (w0 ≤ w1) ∧ (so0 ≤ so1) ∧ (ic = 0 → (w1 = w0 ∧ b1 = b0)) ∧ (ic = 1 → so1 = so0) ∧ (gOf ty so1 q.2.2)) := by
    intro fu
    induction fu with
    | zero => intro h8 k wv bv sov hm; exact absurd hm (Nat.not_lt_zero _)
    | succ fu ihlp7 =>
      intro h8 k wv bv sov lp7m sh8 lp7f0 lp7f1 lp7f2 lp7f3 lp7f4 lp7f5 lp7f6 lp7f7 lp7f8 lp7f9 lp7k0 lp7k1 lp7k2 lp7k3 lp7k4
      have hkT : (k + 1) * (35 * (b - a + 1) + 73) = k * (35 * (b - a + 1) + 73) + (35 * (b - a + 1) + 73) := by rw [Int.add_mul, Int.one_mul]
      have hkB : k * (35 * (b - a + 1) + 73) ≤ 16 * (35 * (b - a + 1) + 73) := Int.mul_le_mul_of_nonneg_right (by omega) (by omega)
      have hkC : (k + 1) * (35 * (b - a + 1) + 73) ≤ 16 * (35 * (b - a + 1) + 73) ∨ k = 16 := by
        by_cases e9 : k = 16
        · exact Or.inr e9
        · exact Or.inl (Int.mul_le_mul_of_nonneg_right (by omega) (by omega))
      refine gz_s 2 (pc' := 11) (L' := [some (.ref m), some (.int (zi a)), some (.int (zi b)), some (.int (zi ov)), some (.int (zi bt)), some (.int (zi k))]) (S' := [.ref m, .int (zi k)]) rfl ?_
      refine gs_gtk rfl (by decide) rfl sh8.1 tm rfl rfl lp7k1 ?_
      by_cases hc9 : (mb : Int) ≤ k
      · refine gy_icT (pc' := 167) rfl (by decide) (by decide) (by omega) (by omega) hc9 ?_
        exact gz_end (I := .return_) (len := 1) rfl (Or.inl rfl) ⟨sh8, wv, bv, sov, rfl, lp7k2, (by omega), (by omega), lp7k3, (by omega), (by omega), (by omega), (by omega), (by omega), (by omega), (by omega), (by omega), (by omega), lp7k4⟩
      · refine gy_icF rfl (by decide) (by decide) (by omega) (by omega) hc9 ?_
        refine gz_s 1 (pc' := 18) (L' := [some (.ref m), some (.int (zi a)), some (.int (zi b)), some (.int (zi ov)), some (.int (zi bt)), some (.int (zi k))]) (S' := [.ref m]) rfl ?_
        refine gs_get rfl (by decide) rfl sh8.1 tm rfl rfl rfl (fun z10 ez10 az10 bz10 => ?_)
        by_cases hc11 : (z10 : Int) ≤ 0
        · refine gy_ifT (pc' := 75) rfl (by decide) (by decide) (by omega) hc11 ?_
          refine gz_s 1 (pc' := 76) (L' := [some (.ref m), some (.int (zi a)), some (.int (zi b)), some (.int (zi ov)), some (.int (zi bt)), some (.int (zi k))]) (S' := [.int (zi a)]) rfl ?_
          by_cases hc12 : ¬ (a : Int) = 0
          · refine gy_ifT (pc' := 96) rfl (by decide) (by decide) (by omega) hc12 ?_
            refine gz_s 1 (pc' := 97) (L' := [some (.ref m), some (.int (zi a)), some (.int (zi b)), some (.int (zi ov)), some (.int (zi bt)), some (.int (zi k))]) (S' := [.int (zi a)]) rfl ?_
            refine gy_ifT (pc' := 120) rfl (by decide) (by decide) (by omega) (by first | (simp [zc]; done) | (simp only [zc]; omega)) ?_
            refine gz_s 1 (pc' := 121) (L' := [some (.ref m), some (.int (zi a)), some (.int (zi b)), some (.int (zi ov)), some (.int (zi bt)), some (.int (zi k))]) (S' := [.int (zi a)]) rfl ?_
            refine gy_ifF rfl (by decide) (by decide) (by omega) (by first | (simp [zc]; done) | (simp only [zc]; omega)) ?_
            refine gz_s 1 (pc' := 125) (L' := [some (.ref m), some (.int (zi a)), some (.int (zi b)), some (.int (zi ov)), some (.int (zi bt)), some (.int (zi k))]) (S' := [.int (zi ov)]) rfl ?_
            by_cases hc13 : ¬ (ov : Int) = 0
            · refine gy_ifT (pc' := 144) rfl (by decide) (by decide) (by omega) hc13 ?_
              refine gz_s 1 (pc' := 145) (L' := [some (.ref m), some (.int (zi a)), some (.int (zi b)), some (.int (zi ov)), some (.int (zi bt)), some (.int (zi k))]) (S' := [.int (zi a)]) rfl ?_
              refine gy_ifF rfl (by decide) (by decide) (by omega) (by first | (simp [zc]; done) | (simp only [zc]; omega)) ?_
              refine gy_s 7 (pc' := 158) (L' := [some (.ref m), some (.int (zi a)), some (.int (zi b)), some (.int (zi ov)), some (.int (zi bt)), some (.int (zi k))]) (S' := [.int (zi bt), .int (zi b), .int (zi a), .int ((zi 64) * (zi k)), .ref m]) (L2 := [some (.ref m), some (.int (zi a)), some (.int (zi b)), some (.int (zi ov)), some (.int (zi bt)), some (.int (zi k))]) (S2 := [.int (zi bt), .int (zi b), .int (zi a), .int (zi (64 * k)), .ref m]) rfl (by simp only [zi_add, zi_sub, zi_mul, zi_neg, zi_and1, zi_and7, zi_and15, zi_and31, zi_and255]) (by simp only [zi_add, zi_sub, zi_mul, zi_neg, zi_and1, zi_and7, zi_and15, zi_and31, zi_and255]) ?_
              refine gz_call rfl (by decide) rfl (by decide) (by decide) (gcal_of rfl rfl rfl (Nat.le_of_ble_eq_true rfl) (gJ.recv (G := gGG) sh8.1 tm rfl rfl)) (mm_putMore _ sh8.1 m tm (64 * k) (by omega) a (by omega) b (by omega) bt (by omega) wv lp7k2 (by omega) bv lp7k3 (by omega) ic lp7k0 (by omega) sov (by omega) (by omega) (by omega) uq lp7k4) (fun q14 _ wq14 => ?_)
              obtain ⟨pq14, oq14, hq14⟩ := q14
              obtain ⟨xq14, fq14_0, fq14_1, xq14_0, gq14, efq14_0, afq14_0, bfq14_0, efq14_1, afq14_1, bfq14_1, axq14_0, bxq14_0, uq14_0, uq14_1, uq14_2, uq14_3, uq14_4, yq14_0⟩ := wq14
              refine ⟨_, gq14, ?_⟩
              show gz gPP gGG gcn _ _ 161 [some (.ref m), some (.int (zi a)), some (.int (zi b)), some (.int (zi ov)), some (.int (zi bt)), some (.int (zi k))] [] hq14 _
              have sq14 := gSs.tr sh8 xq14 (by decide)
              have s15 := (xq14.2.2.2.2.2 m 67 (by rw [tm]; decide)).trans lp7k0
              have s16 := (xq14.2.2.2.2.2 m 64 (by rw [tm]; decide)).trans lp7k1
              have s17 := (xq14.2.2.2.2.2 m 52 (by rw [tm]; decide)).trans ez10
              refine gy_s 2 (pc' := 8) (L' := [some (.ref m), some (.int (zi a)), some (.int (zi b)), some (.int (zi ov)), some (.int (zi bt)), some (.int ((zi k) + zi 1))]) (S' := []) (L2 := [some (.ref m), some (.int (zi a)), some (.int (zi b)), some (.int (zi ov)), some (.int (zi bt)), some (.int (zi (k + 1)))]) (S2 := []) rfl (by simp only [zi_add, zi_sub, zi_mul, zi_neg, zi_and1, zi_and7, zi_and15, zi_and31, zi_and255]) (by simp only [zi_add, zi_sub, zi_mul, zi_neg, zi_and1, zi_and7, zi_and15, zi_and31, zi_and255]) ?_
              exact gz_wk (ihlp7 hq14 (k + 1) fq14_0 fq14_1 xq14_0 (by omega) sq14 (by omega) (by omega) (by omega) (by omega) (by omega) (by omega) (by omega) (by omega) (by omega) (by omega) s15 s16 efq14_0 efq14_1 yq14_0) (gLw.s (gLw.s (gLw.s (gLw.s (gLw.s (gLw.s gLw.z))))))
            · refine gy_ifF rfl (by decide) (by decide) (by omega) hc13 ?_
              refine gy_s 7 (pc' := 138) (L' := [some (.ref m), some (.int (zi a)), some (.int (zi b)), some (.int (zi ov)), some (.int (zi bt)), some (.int (zi k))]) (S' := [.int (zi bt), .int (zi b), .int (zi a), .int ((zi 64) * (zi k)), .ref m]) (L2 := [some (.ref m), some (.int (zi a)), some (.int (zi b)), some (.int (zi ov)), some (.int (zi bt)), some (.int (zi k))]) (S2 := [.int (zi bt), .int (zi b), .int (zi a), .int (zi (64 * k)), .ref m]) rfl (by simp only [zi_add, zi_sub, zi_mul, zi_neg, zi_and1, zi_and7, zi_and15, zi_and31, zi_and255]) (by simp only [zi_add, zi_sub, zi_mul, zi_neg, zi_and1, zi_and7, zi_and15, zi_and31, zi_and255]) ?_
              refine gz_call rfl (by decide) rfl (by decide) (by decide) (gcal_of rfl rfl rfl (Nat.le_of_ble_eq_true rfl) (gJ.recv (G := gGG) sh8.1 tm rfl rfl)) (mm_putOthers _ sh8.1 m tm (64 * k) (by omega) a (by omega) b (by omega) bt (by omega) wv lp7k2 (by omega) bv lp7k3 (by omega) ic lp7k0 (by omega) sov (by omega) (by omega) (by omega) uq lp7k4) (fun q18 _ wq18 => ?_)
              obtain ⟨pq18, oq18, hq18⟩ := q18
              obtain ⟨xq18, fq18_0, fq18_1, xq18_0, gq18, efq18_0, afq18_0, bfq18_0, efq18_1, afq18_1, bfq18_1, axq18_0, bxq18_0, uq18_0, uq18_1, uq18_2, uq18_3, uq18_4, yq18_0⟩ := wq18
              refine ⟨_, gq18, ?_⟩
              show gz gPP gGG gcn _ _ 141 [some (.ref m), some (.int (zi a)), some (.int (zi b)), some (.int (zi ov)), some (.int (zi bt)), some (.int (zi k))] [] hq18 _
              have sq18 := gSs.tr sh8 xq18 (by decide)
              have s19 := (xq18.2.2.2.2.2 m 67 (by rw [tm]; decide)).trans lp7k0
              have s20 := (xq18.2.2.2.2.2 m 64 (by rw [tm]; decide)).trans lp7k1
              have s21 := (xq18.2.2.2.2.2 m 52 (by rw [tm]; decide)).trans ez10
              refine gy_s 3 (pc' := 8) (L' := [some (.ref m), some (.int (zi a)), some (.int (zi b)), some (.int (zi ov)), some (.int (zi bt)), some (.int ((zi k) + zi 1))]) (S' := []) (L2 := [some (.ref m), some (.int (zi a)), some (.int (zi b)), some (.int (zi ov)), some (.int (zi bt)), some (.int (zi (k + 1)))]) (S2 := []) rfl (by simp only [zi_add, zi_sub, zi_mul, zi_neg, zi_and1, zi_and7, zi_and15, zi_and31, zi_and255]) (by simp only [zi_add, zi_sub, zi_mul, zi_neg, zi_and1, zi_and7, zi_and15, zi_and31, zi_and255]) ?_
              exact gz_wk (ihlp7 hq18 (k + 1) fq18_0 fq18_1 xq18_0 (by omega) sq18 (by omega) (by omega) (by omega) (by omega) (by omega) (by omega) (by omega) (by omega) (by omega) (by omega) s19 s20 efq18_0 efq18_1 yq18_0) (gLw.s (gLw.s (gLw.s (gLw.s (gLw.s (gLw.s gLw.z))))))
          · refine gy_ifF rfl (by decide) (by decide) (by omega) hc12 ?_
            refine gz_s 2 (pc' := 81) (L' := [some (.ref m), some (.int (zi a)), some (.int (zi b)), some (.int (zi ov)), some (.int (zi bt)), some (.int (zi k))]) (S' := [.ref m, .ref m]) rfl ?_
            refine gs_gtr rfl (by decide) rfl sh8.1 tm rfl rfl rfl (fun c22 ec22 tc22 => ?_)
            refine gy_s 3 (pc' := 89) (L' := [some (.ref m), some (.int (zi a)), some (.int (zi b)), some (.int (zi ov)), some (.int (zi bt)), some (.int (zi k))]) (S' := [.int ((zi 64) * (zi k)), .ref c22, .ref m]) (L2 := [some (.ref m), some (.int (zi a)), some (.int (zi b)), some (.int (zi ov)), some (.int (zi bt)), some (.int (zi k))]) (S2 := [.int (zi (64 * k)), .ref c22, .ref m]) rfl (by simp only [zi_add, zi_sub, zi_mul, zi_neg, zi_and1, zi_and7, zi_and15, zi_and31, zi_and255]) (by simp only [zi_add, zi_sub, zi_mul, zi_neg, zi_and1, zi_and7, zi_and15, zi_and31, zi_and255]) ?_
            have hl23 : 1024 ≤ h8.2.2.2.1 c22 ∧ h8.2.2.2.1 c22 ≤ 1024 := gJ.rowl (G := gGG) sh8.1 tc22 rfl
            refine gs_ald rfl (by decide) sh8.1 tc22 rfl rfl rfl (by decide) (fun _ => rfl) (by omega) (by omega) (fun z24 ez24 az24 bz24 => ?_)
            refine gz_s 2 (pc' := 93) (L' := [some (.ref m), some (.int (zi a)), some (.int (zi b)), some (.int (zi ov)), some (.int (zi bt)), some (.int (zi k))]) (S' := [.int (zi bt), .int (zi ov), .int (zi z24), .ref m]) rfl ?_
            refine gz_call rfl (by decide) rfl (by decide) (by decide) (gcal_of rfl rfl rfl (Nat.le_of_ble_eq_true rfl) (gJ.recv (G := gGG) sh8.1 tm rfl rfl)) (mm_putFirst _ sh8.1 m tm z24 (by omega) ov (by omega) bt (by omega) wv lp7k2 (by omega) bv lp7k3 (by omega) ic lp7k0 (by omega) sov (by omega) (by omega) uq lp7k4) (fun q25 _ wq25 => ?_)
            obtain ⟨pq25, oq25, hq25⟩ := q25
            obtain ⟨xq25, fq25_0, fq25_1, xq25_0, gq25, efq25_0, afq25_0, bfq25_0, efq25_1, afq25_1, bfq25_1, axq25_0, bxq25_0, uq25_0, uq25_1, uq25_2, uq25_3, uq25_4, yq25_0⟩ := wq25
            refine ⟨_, gq25, ?_⟩
            show gz gPP gGG gcn _ _ 96 [some (.ref m), some (.int (zi a)), some (.int (zi b)), some (.int (zi ov)), some (.int (zi bt)), some (.int (zi k))] [] hq25 _
            have sq25 := gSs.tr sh8 xq25 (by decide)
            have s26 := (xq25.2.2.2.2.2 m 67 (by rw [tm]; decide)).trans lp7k0
            have s27 := (xq25.2.2.2.2.2 m 64 (by rw [tm]; decide)).trans lp7k1
            have s28 := (xq25.2.2.2.2.2 m 52 (by rw [tm]; decide)).trans ez10
            have s29 := (xq25.2.2.2.2.2 m 63 (by rw [tm]; decide)).trans ec22
            refine gz_s 1 (pc' := 97) (L' := [some (.ref m), some (.int (zi a)), some (.int (zi b)), some (.int (zi ov)), some (.int (zi bt)), some (.int (zi k))]) (S' := [.int (zi a)]) rfl ?_
            refine gy_ifF rfl (by decide) (by decide) (by omega) (by first | (simp [zc]; done) | (simp only [zc]; omega)) ?_
            refine gz_s 1 (pc' := 101) (L' := [some (.ref m), some (.int (zi a)), some (.int (zi b)), some (.int (zi ov)), some (.int (zi bt)), some (.int (zi k))]) (S' := [.int (zi b)]) rfl ?_
            by_cases hc30 : (b : Int) ≤ 0
            · refine gy_ifT (pc' := 120) rfl (by decide) (by decide) (by omega) hc30 ?_
              refine gz_s 1 (pc' := 121) (L' := [some (.ref m), some (.int (zi a)), some (.int (zi b)), some (.int (zi ov)), some (.int (zi bt)), some (.int (zi k))]) (S' := [.int (zi a)]) rfl ?_
              refine gy_ifT (pc' := 144) rfl (by decide) (by decide) (by omega) (by first | (simp [zc]; done) | (simp only [zc]; omega)) ?_
              refine gz_s 1 (pc' := 145) (L' := [some (.ref m), some (.int (zi a)), some (.int (zi b)), some (.int (zi ov)), some (.int (zi bt)), some (.int (zi k))]) (S' := [.int (zi a)]) rfl ?_
              refine gy_ifT (pc' := 161) rfl (by decide) (by decide) (by omega) (by first | (simp [zc]; done) | (simp only [zc]; omega)) ?_
              refine gy_s 2 (pc' := 8) (L' := [some (.ref m), some (.int (zi a)), some (.int (zi b)), some (.int (zi ov)), some (.int (zi bt)), some (.int ((zi k) + zi 1))]) (S' := []) (L2 := [some (.ref m), some (.int (zi a)), some (.int (zi b)), some (.int (zi ov)), some (.int (zi bt)), some (.int (zi (k + 1)))]) (S2 := []) rfl (by simp only [zi_add, zi_sub, zi_mul, zi_neg, zi_and1, zi_and7, zi_and15, zi_and31, zi_and255]) (by simp only [zi_add, zi_sub, zi_mul, zi_neg, zi_and1, zi_and7, zi_and15, zi_and31, zi_and255]) ?_
              exact gz_wk (ihlp7 hq25 (k + 1) fq25_0 fq25_1 xq25_0 (by omega) sq25 (by omega) (by omega) (by omega) (by omega) (by omega) (by omega) (by omega) (by omega) (by omega) (by omega) s26 s27 efq25_0 efq25_1 yq25_0) (gLw.s (gLw.s (gLw.s (gLw.s (gLw.s (gLw.s gLw.z))))))
            · refine gy_ifF rfl (by decide) (by decide) (by omega) hc30 ?_
              refine gy_s 7 (pc' := 114) (L' := [some (.ref m), some (.int (zi a)), some (.int (zi b)), some (.int (zi ov)), some (.int (zi bt)), some (.int (zi k))]) (S' := [.int (zi bt), .int (zi b), .int (zi 1), .int ((zi 64) * (zi k)), .ref m]) (L2 := [some (.ref m), some (.int (zi a)), some (.int (zi b)), some (.int (zi ov)), some (.int (zi bt)), some (.int (zi k))]) (S2 := [.int (zi bt), .int (zi b), .int (zi 1), .int (zi (64 * k)), .ref m]) rfl (by simp only [zi_add, zi_sub, zi_mul, zi_neg, zi_and1, zi_and7, zi_and15, zi_and31, zi_and255]) (by simp only [zi_add, zi_sub, zi_mul, zi_neg, zi_and1, zi_and7, zi_and15, zi_and31, zi_and255]) ?_
              refine gz_call rfl (by decide) rfl (by decide) (by decide) (gcal_of rfl rfl rfl (Nat.le_of_ble_eq_true rfl) (gJ.recv (G := gGG) sq25.1 tm rfl rfl)) (mm_putOthers _ sq25.1 m tm (64 * k) (by omega) 1 (by omega) b (by omega) bt (by omega) fq25_0 efq25_0 (by omega) fq25_1 efq25_1 (by omega) ic s26 (by omega) xq25_0 (by omega) (by omega) (by omega) uq yq25_0) (fun q31 _ wq31 => ?_)
              obtain ⟨pq31, oq31, hq31⟩ := q31
              obtain ⟨xq31, fq31_0, fq31_1, xq31_0, gq31, efq31_0, afq31_0, bfq31_0, efq31_1, afq31_1, bfq31_1, axq31_0, bxq31_0, uq31_0, uq31_1, uq31_2, uq31_3, uq31_4, yq31_0⟩ := wq31
              refine ⟨_, gq31, ?_⟩
              show gz gPP gGG gcn _ _ 117 [some (.ref m), some (.int (zi a)), some (.int (zi b)), some (.int (zi ov)), some (.int (zi bt)), some (.int (zi k))] [] hq31 _
              have sq31 := gSs.tr sq25 xq31 (by decide)
              have s32 := (xq31.2.2.2.2.2 m 67 (by rw [tm]; decide)).trans s26
              have s33 := (xq31.2.2.2.2.2 m 64 (by rw [tm]; decide)).trans s27
              have s34 := (xq31.2.2.2.2.2 m 52 (by rw [tm]; decide)).trans s28
              have s35 := (xq31.2.2.2.2.2 m 63 (by rw [tm]; decide)).trans s29
              refine gy_s 3 (pc' := 8) (L' := [some (.ref m), some (.int (zi a)), some (.int (zi b)), some (.int (zi ov)), some (.int (zi bt)), some (.int ((zi k) + zi 1))]) (S' := []) (L2 := [some (.ref m), some (.int (zi a)), some (.int (zi b)), some (.int (zi ov)), some (.int (zi bt)), some (.int (zi (k + 1)))]) (S2 := []) rfl (by simp only [zi_add, zi_sub, zi_mul, zi_neg, zi_and1, zi_and7, zi_and15, zi_and31, zi_and255]) (by simp only [zi_add, zi_sub, zi_mul, zi_neg, zi_and1, zi_and7, zi_and15, zi_and31, zi_and255]) ?_
              exact gz_wk (ihlp7 hq31 (k + 1) fq31_0 fq31_1 xq31_0 (by omega) sq31 (by omega) (by omega) (by omega) (by omega) (by omega) (by omega) (by omega) (by omega) (by omega) (by omega) s32 s33 efq31_0 efq31_1 yq31_0) (gLw.s (gLw.s (gLw.s (gLw.s (gLw.s (gLw.s gLw.z))))))
        · refine gy_ifF rfl (by decide) (by decide) (by omega) hc11 ?_
          refine gz_s 1 (pc' := 26) (L' := [some (.ref m), some (.int (zi a)), some (.int (zi b)), some (.int (zi ov)), some (.int (zi bt)), some (.int (zi k))]) (S' := [.int (zi k)]) rfl ?_
          by_cases hc36 : (k : Int) ≤ 0
          · refine gy_ifT (pc' := 75) rfl (by decide) (by decide) (by omega) hc36 ?_
            refine gz_s 1 (pc' := 76) (L' := [some (.ref m), some (.int (zi a)), some (.int (zi b)), some (.int (zi ov)), some (.int (zi bt)), some (.int (zi k))]) (S' := [.int (zi a)]) rfl ?_
            by_cases hc37 : ¬ (a : Int) = 0
            · refine gy_ifT (pc' := 96) rfl (by decide) (by decide) (by omega) hc37 ?_
              refine gz_s 1 (pc' := 97) (L' := [some (.ref m), some (.int (zi a)), some (.int (zi b)), some (.int (zi ov)), some (.int (zi bt)), some (.int (zi k))]) (S' := [.int (zi a)]) rfl ?_
              refine gy_ifT (pc' := 120) rfl (by decide) (by decide) (by omega) (by first | (simp [zc]; done) | (simp only [zc]; omega)) ?_
              refine gz_s 1 (pc' := 121) (L' := [some (.ref m), some (.int (zi a)), some (.int (zi b)), some (.int (zi ov)), some (.int (zi bt)), some (.int (zi k))]) (S' := [.int (zi a)]) rfl ?_
              refine gy_ifF rfl (by decide) (by decide) (by omega) (by first | (simp [zc]; done) | (simp only [zc]; omega)) ?_
              refine gz_s 1 (pc' := 125) (L' := [some (.ref m), some (.int (zi a)), some (.int (zi b)), some (.int (zi ov)), some (.int (zi bt)), some (.int (zi k))]) (S' := [.int (zi ov)]) rfl ?_
              by_cases hc38 : ¬ (ov : Int) = 0
              · refine gy_ifT (pc' := 144) rfl (by decide) (by decide) (by omega) hc38 ?_
                refine gz_s 1 (pc' := 145) (L' := [some (.ref m), some (.int (zi a)), some (.int (zi b)), some (.int (zi ov)), some (.int (zi bt)), some (.int (zi k))]) (S' := [.int (zi a)]) rfl ?_
                refine gy_ifF rfl (by decide) (by decide) (by omega) (by first | (simp [zc]; done) | (simp only [zc]; omega)) ?_
                refine gy_s 7 (pc' := 158) (L' := [some (.ref m), some (.int (zi a)), some (.int (zi b)), some (.int (zi ov)), some (.int (zi bt)), some (.int (zi k))]) (S' := [.int (zi bt), .int (zi b), .int (zi a), .int ((zi 64) * (zi k)), .ref m]) (L2 := [some (.ref m), some (.int (zi a)), some (.int (zi b)), some (.int (zi ov)), some (.int (zi bt)), some (.int (zi k))]) (S2 := [.int (zi bt), .int (zi b), .int (zi a), .int (zi (64 * k)), .ref m]) rfl (by simp only [zi_add, zi_sub, zi_mul, zi_neg, zi_and1, zi_and7, zi_and15, zi_and31, zi_and255]) (by simp only [zi_add, zi_sub, zi_mul, zi_neg, zi_and1, zi_and7, zi_and15, zi_and31, zi_and255]) ?_
                refine gz_call rfl (by decide) rfl (by decide) (by decide) (gcal_of rfl rfl rfl (Nat.le_of_ble_eq_true rfl) (gJ.recv (G := gGG) sh8.1 tm rfl rfl)) (mm_putMore _ sh8.1 m tm (64 * k) (by omega) a (by omega) b (by omega) bt (by omega) wv lp7k2 (by omega) bv lp7k3 (by omega) ic lp7k0 (by omega) sov (by omega) (by omega) (by omega) uq lp7k4) (fun q39 _ wq39 => ?_)
                obtain ⟨pq39, oq39, hq39⟩ := q39
                obtain ⟨xq39, fq39_0, fq39_1, xq39_0, gq39, efq39_0, afq39_0, bfq39_0, efq39_1, afq39_1, bfq39_1, axq39_0, bxq39_0, uq39_0, uq39_1, uq39_2, uq39_3, uq39_4, yq39_0⟩ := wq39
                refine ⟨_, gq39, ?_⟩
                show gz gPP gGG gcn _ _ 161 [some (.ref m), some (.int (zi a)), some (.int (zi b)), some (.int (zi ov)), some (.int (zi bt)), some (.int (zi k))] [] hq39 _
                have sq39 := gSs.tr sh8 xq39 (by decide)
                have s40 := (xq39.2.2.2.2.2 m 67 (by rw [tm]; decide)).trans lp7k0
                have s41 := (xq39.2.2.2.2.2 m 64 (by rw [tm]; decide)).trans lp7k1
                have s42 := (xq39.2.2.2.2.2 m 52 (by rw [tm]; decide)).trans ez10
                refine gy_s 2 (pc' := 8) (L' := [some (.ref m), some (.int (zi a)), some (.int (zi b)), some (.int (zi ov)), some (.int (zi bt)), some (.int ((zi k) + zi 1))]) (S' := []) (L2 := [some (.ref m), some (.int (zi a)), some (.int (zi b)), some (.int (zi ov)), some (.int (zi bt)), some (.int (zi (k + 1)))]) (S2 := []) rfl (by simp only [zi_add, zi_sub, zi_mul, zi_neg, zi_and1, zi_and7, zi_and15, zi_and31, zi_and255]) (by simp only [zi_add, zi_sub, zi_mul, zi_neg, zi_and1, zi_and7, zi_and15, zi_and31, zi_and255]) ?_
                exact gz_wk (ihlp7 hq39 (k + 1) fq39_0 fq39_1 xq39_0 (by omega) sq39 (by omega) (by omega) (by omega) (by omega) (by omega) (by omega) (by omega) (by omega) (by omega) (by omega) s40 s41 efq39_0 efq39_1 yq39_0) (gLw.s (gLw.s (gLw.s (gLw.s (gLw.s (gLw.s gLw.z))))))
              · refine gy_ifF rfl (by decide) (by decide) (by omega) hc38 ?_
                refine gy_s 7 (pc' := 138) (L' := [some (.ref m), some (.int (zi a)), some (.int (zi b)), some (.int (zi ov)), some (.int (zi bt)), some (.int (zi k))]) (S' := [.int (zi bt), .int (zi b), .int (zi a), .int ((zi 64) * (zi k)), .ref m]) (L2 := [some (.ref m), some (.int (zi a)), some (.int (zi b)), some (.int (zi ov)), some (.int (zi bt)), some (.int (zi k))]) (S2 := [.int (zi bt), .int (zi b), .int (zi a), .int (zi (64 * k)), .ref m]) rfl (by simp only [zi_add, zi_sub, zi_mul, zi_neg, zi_and1, zi_and7, zi_and15, zi_and31, zi_and255]) (by simp only [zi_add, zi_sub, zi_mul, zi_neg, zi_and1, zi_and7, zi_and15, zi_and31, zi_and255]) ?_
                refine gz_call rfl (by decide) rfl (by decide) (by decide) (gcal_of rfl rfl rfl (Nat.le_of_ble_eq_true rfl) (gJ.recv (G := gGG) sh8.1 tm rfl rfl)) (mm_putOthers _ sh8.1 m tm (64 * k) (by omega) a (by omega) b (by omega) bt (by omega) wv lp7k2 (by omega) bv lp7k3 (by omega) ic lp7k0 (by omega) sov (by omega) (by omega) (by omega) uq lp7k4) (fun q43 _ wq43 => ?_)
                obtain ⟨pq43, oq43, hq43⟩ := q43
                obtain ⟨xq43, fq43_0, fq43_1, xq43_0, gq43, efq43_0, afq43_0, bfq43_0, efq43_1, afq43_1, bfq43_1, axq43_0, bxq43_0, uq43_0, uq43_1, uq43_2, uq43_3, uq43_4, yq43_0⟩ := wq43
                refine ⟨_, gq43, ?_⟩
                show gz gPP gGG gcn _ _ 141 [some (.ref m), some (.int (zi a)), some (.int (zi b)), some (.int (zi ov)), some (.int (zi bt)), some (.int (zi k))] [] hq43 _
                have sq43 := gSs.tr sh8 xq43 (by decide)
                have s44 := (xq43.2.2.2.2.2 m 67 (by rw [tm]; decide)).trans lp7k0
                have s45 := (xq43.2.2.2.2.2 m 64 (by rw [tm]; decide)).trans lp7k1
                have s46 := (xq43.2.2.2.2.2 m 52 (by rw [tm]; decide)).trans ez10
                refine gy_s 3 (pc' := 8) (L' := [some (.ref m), some (.int (zi a)), some (.int (zi b)), some (.int (zi ov)), some (.int (zi bt)), some (.int ((zi k) + zi 1))]) (S' := []) (L2 := [some (.ref m), some (.int (zi a)), some (.int (zi b)), some (.int (zi ov)), some (.int (zi bt)), some (.int (zi (k + 1)))]) (S2 := []) rfl (by simp only [zi_add, zi_sub, zi_mul, zi_neg, zi_and1, zi_and7, zi_and15, zi_and31, zi_and255]) (by simp only [zi_add, zi_sub, zi_mul, zi_neg, zi_and1, zi_and7, zi_and15, zi_and31, zi_and255]) ?_
                exact gz_wk (ihlp7 hq43 (k + 1) fq43_0 fq43_1 xq43_0 (by omega) sq43 (by omega) (by omega) (by omega) (by omega) (by omega) (by omega) (by omega) (by omega) (by omega) (by omega) s44 s45 efq43_0 efq43_1 yq43_0) (gLw.s (gLw.s (gLw.s (gLw.s (gLw.s (gLw.s gLw.z))))))
            · refine gy_ifF rfl (by decide) (by decide) (by omega) hc37 ?_
              refine gz_s 2 (pc' := 81) (L' := [some (.ref m), some (.int (zi a)), some (.int (zi b)), some (.int (zi ov)), some (.int (zi bt)), some (.int (zi k))]) (S' := [.ref m, .ref m]) rfl ?_
              refine gs_gtr rfl (by decide) rfl sh8.1 tm rfl rfl rfl (fun c47 ec47 tc47 => ?_)
              refine gy_s 3 (pc' := 89) (L' := [some (.ref m), some (.int (zi a)), some (.int (zi b)), some (.int (zi ov)), some (.int (zi bt)), some (.int (zi k))]) (S' := [.int ((zi 64) * (zi k)), .ref c47, .ref m]) (L2 := [some (.ref m), some (.int (zi a)), some (.int (zi b)), some (.int (zi ov)), some (.int (zi bt)), some (.int (zi k))]) (S2 := [.int (zi (64 * k)), .ref c47, .ref m]) rfl (by simp only [zi_add, zi_sub, zi_mul, zi_neg, zi_and1, zi_and7, zi_and15, zi_and31, zi_and255]) (by simp only [zi_add, zi_sub, zi_mul, zi_neg, zi_and1, zi_and7, zi_and15, zi_and31, zi_and255]) ?_
              have hl48 : 1024 ≤ h8.2.2.2.1 c47 ∧ h8.2.2.2.1 c47 ≤ 1024 := gJ.rowl (G := gGG) sh8.1 tc47 rfl
              refine gs_ald rfl (by decide) sh8.1 tc47 rfl rfl rfl (by decide) (fun _ => rfl) (by omega) (by omega) (fun z49 ez49 az49 bz49 => ?_)
              refine gz_s 2 (pc' := 93) (L' := [some (.ref m), some (.int (zi a)), some (.int (zi b)), some (.int (zi ov)), some (.int (zi bt)), some (.int (zi k))]) (S' := [.int (zi bt), .int (zi ov), .int (zi z49), .ref m]) rfl ?_
              refine gz_call rfl (by decide) rfl (by decide) (by decide) (gcal_of rfl rfl rfl (Nat.le_of_ble_eq_true rfl) (gJ.recv (G := gGG) sh8.1 tm rfl rfl)) (mm_putFirst _ sh8.1 m tm z49 (by omega) ov (by omega) bt (by omega) wv lp7k2 (by omega) bv lp7k3 (by omega) ic lp7k0 (by omega) sov (by omega) (by omega) uq lp7k4) (fun q50 _ wq50 => ?_)
              obtain ⟨pq50, oq50, hq50⟩ := q50
              obtain ⟨xq50, fq50_0, fq50_1, xq50_0, gq50, efq50_0, afq50_0, bfq50_0, efq50_1, afq50_1, bfq50_1, axq50_0, bxq50_0, uq50_0, uq50_1, uq50_2, uq50_3, uq50_4, yq50_0⟩ := wq50
              refine ⟨_, gq50, ?_⟩
              show gz gPP gGG gcn _ _ 96 [some (.ref m), some (.int (zi a)), some (.int (zi b)), some (.int (zi ov)), some (.int (zi bt)), some (.int (zi k))] [] hq50 _
              have sq50 := gSs.tr sh8 xq50 (by decide)
              have s51 := (xq50.2.2.2.2.2 m 67 (by rw [tm]; decide)).trans lp7k0
              have s52 := (xq50.2.2.2.2.2 m 64 (by rw [tm]; decide)).trans lp7k1
              have s53 := (xq50.2.2.2.2.2 m 52 (by rw [tm]; decide)).trans ez10
              have s54 := (xq50.2.2.2.2.2 m 63 (by rw [tm]; decide)).trans ec47
              refine gz_s 1 (pc' := 97) (L' := [some (.ref m), some (.int (zi a)), some (.int (zi b)), some (.int (zi ov)), some (.int (zi bt)), some (.int (zi k))]) (S' := [.int (zi a)]) rfl ?_
              refine gy_ifF rfl (by decide) (by decide) (by omega) (by first | (simp [zc]; done) | (simp only [zc]; omega)) ?_
              refine gz_s 1 (pc' := 101) (L' := [some (.ref m), some (.int (zi a)), some (.int (zi b)), some (.int (zi ov)), some (.int (zi bt)), some (.int (zi k))]) (S' := [.int (zi b)]) rfl ?_
              by_cases hc55 : (b : Int) ≤ 0
              · refine gy_ifT (pc' := 120) rfl (by decide) (by decide) (by omega) hc55 ?_
                refine gz_s 1 (pc' := 121) (L' := [some (.ref m), some (.int (zi a)), some (.int (zi b)), some (.int (zi ov)), some (.int (zi bt)), some (.int (zi k))]) (S' := [.int (zi a)]) rfl ?_
                refine gy_ifT (pc' := 144) rfl (by decide) (by decide) (by omega) (by first | (simp [zc]; done) | (simp only [zc]; omega)) ?_
                refine gz_s 1 (pc' := 145) (L' := [some (.ref m), some (.int (zi a)), some (.int (zi b)), some (.int (zi ov)), some (.int (zi bt)), some (.int (zi k))]) (S' := [.int (zi a)]) rfl ?_
                refine gy_ifT (pc' := 161) rfl (by decide) (by decide) (by omega) (by first | (simp [zc]; done) | (simp only [zc]; omega)) ?_
                refine gy_s 2 (pc' := 8) (L' := [some (.ref m), some (.int (zi a)), some (.int (zi b)), some (.int (zi ov)), some (.int (zi bt)), some (.int ((zi k) + zi 1))]) (S' := []) (L2 := [some (.ref m), some (.int (zi a)), some (.int (zi b)), some (.int (zi ov)), some (.int (zi bt)), some (.int (zi (k + 1)))]) (S2 := []) rfl (by simp only [zi_add, zi_sub, zi_mul, zi_neg, zi_and1, zi_and7, zi_and15, zi_and31, zi_and255]) (by simp only [zi_add, zi_sub, zi_mul, zi_neg, zi_and1, zi_and7, zi_and15, zi_and31, zi_and255]) ?_
                exact gz_wk (ihlp7 hq50 (k + 1) fq50_0 fq50_1 xq50_0 (by omega) sq50 (by omega) (by omega) (by omega) (by omega) (by omega) (by omega) (by omega) (by omega) (by omega) (by omega) s51 s52 efq50_0 efq50_1 yq50_0) (gLw.s (gLw.s (gLw.s (gLw.s (gLw.s (gLw.s gLw.z))))))
              · refine gy_ifF rfl (by decide) (by decide) (by omega) hc55 ?_
                refine gy_s 7 (pc' := 114) (L' := [some (.ref m), some (.int (zi a)), some (.int (zi b)), some (.int (zi ov)), some (.int (zi bt)), some (.int (zi k))]) (S' := [.int (zi bt), .int (zi b), .int (zi 1), .int ((zi 64) * (zi k)), .ref m]) (L2 := [some (.ref m), some (.int (zi a)), some (.int (zi b)), some (.int (zi ov)), some (.int (zi bt)), some (.int (zi k))]) (S2 := [.int (zi bt), .int (zi b), .int (zi 1), .int (zi (64 * k)), .ref m]) rfl (by simp only [zi_add, zi_sub, zi_mul, zi_neg, zi_and1, zi_and7, zi_and15, zi_and31, zi_and255]) (by simp only [zi_add, zi_sub, zi_mul, zi_neg, zi_and1, zi_and7, zi_and15, zi_and31, zi_and255]) ?_
                refine gz_call rfl (by decide) rfl (by decide) (by decide) (gcal_of rfl rfl rfl (Nat.le_of_ble_eq_true rfl) (gJ.recv (G := gGG) sq50.1 tm rfl rfl)) (mm_putOthers _ sq50.1 m tm (64 * k) (by omega) 1 (by omega) b (by omega) bt (by omega) fq50_0 efq50_0 (by omega) fq50_1 efq50_1 (by omega) ic s51 (by omega) xq50_0 (by omega) (by omega) (by omega) uq yq50_0) (fun q56 _ wq56 => ?_)
                obtain ⟨pq56, oq56, hq56⟩ := q56
                obtain ⟨xq56, fq56_0, fq56_1, xq56_0, gq56, efq56_0, afq56_0, bfq56_0, efq56_1, afq56_1, bfq56_1, axq56_0, bxq56_0, uq56_0, uq56_1, uq56_2, uq56_3, uq56_4, yq56_0⟩ := wq56
                refine ⟨_, gq56, ?_⟩
                show gz gPP gGG gcn _ _ 117 [some (.ref m), some (.int (zi a)), some (.int (zi b)), some (.int (zi ov)), some (.int (zi bt)), some (.int (zi k))] [] hq56 _
                have sq56 := gSs.tr sq50 xq56 (by decide)
                have s57 := (xq56.2.2.2.2.2 m 67 (by rw [tm]; decide)).trans s51
                have s58 := (xq56.2.2.2.2.2 m 64 (by rw [tm]; decide)).trans s52
                have s59 := (xq56.2.2.2.2.2 m 52 (by rw [tm]; decide)).trans s53
                have s60 := (xq56.2.2.2.2.2 m 63 (by rw [tm]; decide)).trans s54
                refine gy_s 3 (pc' := 8) (L' := [some (.ref m), some (.int (zi a)), some (.int (zi b)), some (.int (zi ov)), some (.int (zi bt)), some (.int ((zi k) + zi 1))]) (S' := []) (L2 := [some (.ref m), some (.int (zi a)), some (.int (zi b)), some (.int (zi ov)), some (.int (zi bt)), some (.int (zi (k + 1)))]) (S2 := []) rfl (by simp only [zi_add, zi_sub, zi_mul, zi_neg, zi_and1, zi_and7, zi_and15, zi_and31, zi_and255]) (by simp only [zi_add, zi_sub, zi_mul, zi_neg, zi_and1, zi_and7, zi_and15, zi_and31, zi_and255]) ?_
                exact gz_wk (ihlp7 hq56 (k + 1) fq56_0 fq56_1 xq56_0 (by omega) sq56 (by omega) (by omega) (by omega) (by omega) (by omega) (by omega) (by omega) (by omega) (by omega) (by omega) s57 s58 efq56_0 efq56_1 yq56_0) (gLw.s (gLw.s (gLw.s (gLw.s (gLw.s (gLw.s gLw.z))))))
          · refine gy_ifF rfl (by decide) (by decide) (by omega) hc36 ?_
            refine gz_s 2 (pc' := 32) (L' := [some (.ref m), some (.int (zi a)), some (.int (zi b)), some (.int (zi ov)), some (.int (zi bt)), some (.int (zi k))]) (S' := [.ref m, .int (zi k)]) rfl ?_
            refine gs_gtk rfl (by decide) rfl sh8.1 tm rfl rfl ez10 ?_
            refine gy_rem rfl (by decide) (by omega) (by omega) ?_
            have hd61 := zm_f (x := k) (y := z10) (by omega) (by omega)
            by_cases hc62 : ¬ (k % z10 : Int) = 0
            · refine gy_ifT (pc' := 75) rfl (by decide) (by decide) (by omega) hc62 ?_
              refine gz_s 1 (pc' := 76) (L' := [some (.ref m), some (.int (zi a)), some (.int (zi b)), some (.int (zi ov)), some (.int (zi bt)), some (.int (zi k))]) (S' := [.int (zi a)]) rfl ?_
              by_cases hc63 : ¬ (a : Int) = 0
              · refine gy_ifT (pc' := 96) rfl (by decide) (by decide) (by omega) hc63 ?_
                refine gz_s 1 (pc' := 97) (L' := [some (.ref m), some (.int (zi a)), some (.int (zi b)), some (.int (zi ov)), some (.int (zi bt)), some (.int (zi k))]) (S' := [.int (zi a)]) rfl ?_
                refine gy_ifT (pc' := 120) rfl (by decide) (by decide) (by omega) (by first | (simp [zc]; done) | (simp only [zc]; omega)) ?_
                refine gz_s 1 (pc' := 121) (L' := [some (.ref m), some (.int (zi a)), some (.int (zi b)), some (.int (zi ov)), some (.int (zi bt)), some (.int (zi k))]) (S' := [.int (zi a)]) rfl ?_
                refine gy_ifF rfl (by decide) (by decide) (by omega) (by first | (simp [zc]; done) | (simp only [zc]; omega)) ?_
                refine gz_s 1 (pc' := 125) (L' := [some (.ref m), some (.int (zi a)), some (.int (zi b)), some (.int (zi ov)), some (.int (zi bt)), some (.int (zi k))]) (S' := [.int (zi ov)]) rfl ?_
                by_cases hc64 : ¬ (ov : Int) = 0
                · refine gy_ifT (pc' := 144) rfl (by decide) (by decide) (by omega) hc64 ?_
                  refine gz_s 1 (pc' := 145) (L' := [some (.ref m), some (.int (zi a)), some (.int (zi b)), some (.int (zi ov)), some (.int (zi bt)), some (.int (zi k))]) (S' := [.int (zi a)]) rfl ?_
                  refine gy_ifF rfl (by decide) (by decide) (by omega) (by first | (simp [zc]; done) | (simp only [zc]; omega)) ?_
                  refine gy_s 7 (pc' := 158) (L' := [some (.ref m), some (.int (zi a)), some (.int (zi b)), some (.int (zi ov)), some (.int (zi bt)), some (.int (zi k))]) (S' := [.int (zi bt), .int (zi b), .int (zi a), .int ((zi 64) * (zi k)), .ref m]) (L2 := [some (.ref m), some (.int (zi a)), some (.int (zi b)), some (.int (zi ov)), some (.int (zi bt)), some (.int (zi k))]) (S2 := [.int (zi bt), .int (zi b), .int (zi a), .int (zi (64 * k)), .ref m]) rfl (by simp only [zi_add, zi_sub, zi_mul, zi_neg, zi_and1, zi_and7, zi_and15, zi_and31, zi_and255]) (by simp only [zi_add, zi_sub, zi_mul, zi_neg, zi_and1, zi_and7, zi_and15, zi_and31, zi_and255]) ?_
                  refine gz_call rfl (by decide) rfl (by decide) (by decide) (gcal_of rfl rfl rfl (Nat.le_of_ble_eq_true rfl) (gJ.recv (G := gGG) sh8.1 tm rfl rfl)) (mm_putMore _ sh8.1 m tm (64 * k) (by omega) a (by omega) b (by omega) bt (by omega) wv lp7k2 (by omega) bv lp7k3 (by omega) ic lp7k0 (by omega) sov (by omega) (by omega) (by omega) uq lp7k4) (fun q65 _ wq65 => ?_)
                  obtain ⟨pq65, oq65, hq65⟩ := q65
                  obtain ⟨xq65, fq65_0, fq65_1, xq65_0, gq65, efq65_0, afq65_0, bfq65_0, efq65_1, afq65_1, bfq65_1, axq65_0, bxq65_0, uq65_0, uq65_1, uq65_2, uq65_3, uq65_4, yq65_0⟩ := wq65
                  refine ⟨_, gq65, ?_⟩
                  show gz gPP gGG gcn _ _ 161 [some (.ref m), some (.int (zi a)), some (.int (zi b)), some (.int (zi ov)), some (.int (zi bt)), some (.int (zi k))] [] hq65 _
                  have sq65 := gSs.tr sh8 xq65 (by decide)
                  have s66 := (xq65.2.2.2.2.2 m 67 (by rw [tm]; decide)).trans lp7k0
                  have s67 := (xq65.2.2.2.2.2 m 64 (by rw [tm]; decide)).trans lp7k1
                  have s68 := (xq65.2.2.2.2.2 m 52 (by rw [tm]; decide)).trans ez10
                  refine gy_s 2 (pc' := 8) (L' := [some (.ref m), some (.int (zi a)), some (.int (zi b)), some (.int (zi ov)), some (.int (zi bt)), some (.int ((zi k) + zi 1))]) (S' := []) (L2 := [some (.ref m), some (.int (zi a)), some (.int (zi b)), some (.int (zi ov)), some (.int (zi bt)), some (.int (zi (k + 1)))]) (S2 := []) rfl (by simp only [zi_add, zi_sub, zi_mul, zi_neg, zi_and1, zi_and7, zi_and15, zi_and31, zi_and255]) (by simp only [zi_add, zi_sub, zi_mul, zi_neg, zi_and1, zi_and7, zi_and15, zi_and31, zi_and255]) ?_
                  exact gz_wk (ihlp7 hq65 (k + 1) fq65_0 fq65_1 xq65_0 (by omega) sq65 (by omega) (by omega) (by omega) (by omega) (by omega) (by omega) (by omega) (by omega) (by omega) (by omega) s66 s67 efq65_0 efq65_1 yq65_0) (gLw.s (gLw.s (gLw.s (gLw.s (gLw.s (gLw.s gLw.z))))))
                · refine gy_ifF rfl (by decide) (by decide) (by omega) hc64 ?_
                  refine gy_s 7 (pc' := 138) (L' := [some (.ref m), some (.int (zi a)), some (.int (zi b)), some (.int (zi ov)), some (.int (zi bt)), some (.int (zi k))]) (S' := [.int (zi bt), .int (zi b), .int (zi a), .int ((zi 64) * (zi k)), .ref m]) (L2 := [some (.ref m), some (.int (zi a)), some (.int (zi b)), some (.int (zi ov)), some (.int (zi bt)), some (.int (zi k))]) (S2 := [.int (zi bt), .int (zi b), .int (zi a), .int (zi (64 * k)), .ref m]) rfl (by simp only [zi_add, zi_sub, zi_mul, zi_neg, zi_and1, zi_and7, zi_and15, zi_and31, zi_and255]) (by simp only [zi_add, zi_sub, zi_mul, zi_neg, zi_and1, zi_and7, zi_and15, zi_and31, zi_and255]) ?_
                  refine gz_call rfl (by decide) rfl (by decide) (by decide) (gcal_of rfl rfl rfl (Nat.le_of_ble_eq_true rfl) (gJ.recv (G := gGG) sh8.1 tm rfl rfl)) (mm_putOthers _ sh8.1 m tm (64 * k) (by omega) a (by omega) b (by omega) bt (by omega) wv lp7k2 (by omega) bv lp7k3 (by omega) ic lp7k0 (by omega) sov (by omega) (by omega) (by omega) uq lp7k4) (fun q69 _ wq69 => ?_)
                  obtain ⟨pq69, oq69, hq69⟩ := q69
                  obtain ⟨xq69, fq69_0, fq69_1, xq69_0, gq69, efq69_0, afq69_0, bfq69_0, efq69_1, afq69_1, bfq69_1, axq69_0, bxq69_0, uq69_0, uq69_1, uq69_2, uq69_3, uq69_4, yq69_0⟩ := wq69
                  refine ⟨_, gq69, ?_⟩
                  show gz gPP gGG gcn _ _ 141 [some (.ref m), some (.int (zi a)), some (.int (zi b)), some (.int (zi ov)), some (.int (zi bt)), some (.int (zi k))] [] hq69 _
                  have sq69 := gSs.tr sh8 xq69 (by decide)
                  have s70 := (xq69.2.2.2.2.2 m 67 (by rw [tm]; decide)).trans lp7k0
                  have s71 := (xq69.2.2.2.2.2 m 64 (by rw [tm]; decide)).trans lp7k1
                  have s72 := (xq69.2.2.2.2.2 m 52 (by rw [tm]; decide)).trans ez10
                  refine gy_s 3 (pc' := 8) (L' := [some (.ref m), some (.int (zi a)), some (.int (zi b)), some (.int (zi ov)), some (.int (zi bt)), some (.int ((zi k) + zi 1))]) (S' := []) (L2 := [some (.ref m), some (.int (zi a)), some (.int (zi b)), some (.int (zi ov)), some (.int (zi bt)), some (.int (zi (k + 1)))]) (S2 := []) rfl (by simp only [zi_add, zi_sub, zi_mul, zi_neg, zi_and1, zi_and7, zi_and15, zi_and31, zi_and255]) (by simp only [zi_add, zi_sub, zi_mul, zi_neg, zi_and1, zi_and7, zi_and15, zi_and31, zi_and255]) ?_
                  exact gz_wk (ihlp7 hq69 (k + 1) fq69_0 fq69_1 xq69_0 (by omega) sq69 (by omega) (by omega) (by omega) (by omega) (by omega) (by omega) (by omega) (by omega) (by omega) (by omega) s70 s71 efq69_0 efq69_1 yq69_0) (gLw.s (gLw.s (gLw.s (gLw.s (gLw.s (gLw.s gLw.z))))))
              · refine gy_ifF rfl (by decide) (by decide) (by omega) hc63 ?_
                refine gz_s 2 (pc' := 81) (L' := [some (.ref m), some (.int (zi a)), some (.int (zi b)), some (.int (zi ov)), some (.int (zi bt)), some (.int (zi k))]) (S' := [.ref m, .ref m]) rfl ?_
                refine gs_gtr rfl (by decide) rfl sh8.1 tm rfl rfl rfl (fun c73 ec73 tc73 => ?_)
                refine gy_s 3 (pc' := 89) (L' := [some (.ref m), some (.int (zi a)), some (.int (zi b)), some (.int (zi ov)), some (.int (zi bt)), some (.int (zi k))]) (S' := [.int ((zi 64) * (zi k)), .ref c73, .ref m]) (L2 := [some (.ref m), some (.int (zi a)), some (.int (zi b)), some (.int (zi ov)), some (.int (zi bt)), some (.int (zi k))]) (S2 := [.int (zi (64 * k)), .ref c73, .ref m]) rfl (by simp only [zi_add, zi_sub, zi_mul, zi_neg, zi_and1, zi_and7, zi_and15, zi_and31, zi_and255]) (by simp only [zi_add, zi_sub, zi_mul, zi_neg, zi_and1, zi_and7, zi_and15, zi_and31, zi_and255]) ?_
                have hl74 : 1024 ≤ h8.2.2.2.1 c73 ∧ h8.2.2.2.1 c73 ≤ 1024 := gJ.rowl (G := gGG) sh8.1 tc73 rfl
                refine gs_ald rfl (by decide) sh8.1 tc73 rfl rfl rfl (by decide) (fun _ => rfl) (by omega) (by omega) (fun z75 ez75 az75 bz75 => ?_)
                refine gz_s 2 (pc' := 93) (L' := [some (.ref m), some (.int (zi a)), some (.int (zi b)), some (.int (zi ov)), some (.int (zi bt)), some (.int (zi k))]) (S' := [.int (zi bt), .int (zi ov), .int (zi z75), .ref m]) rfl ?_
                refine gz_call rfl (by decide) rfl (by decide) (by decide) (gcal_of rfl rfl rfl (Nat.le_of_ble_eq_true rfl) (gJ.recv (G := gGG) sh8.1 tm rfl rfl)) (mm_putFirst _ sh8.1 m tm z75 (by omega) ov (by omega) bt (by omega) wv lp7k2 (by omega) bv lp7k3 (by omega) ic lp7k0 (by omega) sov (by omega) (by omega) uq lp7k4) (fun q76 _ wq76 => ?_)
                obtain ⟨pq76, oq76, hq76⟩ := q76
                obtain ⟨xq76, fq76_0, fq76_1, xq76_0, gq76, efq76_0, afq76_0, bfq76_0, efq76_1, afq76_1, bfq76_1, axq76_0, bxq76_0, uq76_0, uq76_1, uq76_2, uq76_3, uq76_4, yq76_0⟩ := wq76
                refine ⟨_, gq76, ?_⟩
                show gz gPP gGG gcn _ _ 96 [some (.ref m), some (.int (zi a)), some (.int (zi b)), some (.int (zi ov)), some (.int (zi bt)), some (.int (zi k))] [] hq76 _
                have sq76 := gSs.tr sh8 xq76 (by decide)
                have s77 := (xq76.2.2.2.2.2 m 67 (by rw [tm]; decide)).trans lp7k0
                have s78 := (xq76.2.2.2.2.2 m 64 (by rw [tm]; decide)).trans lp7k1
                have s79 := (xq76.2.2.2.2.2 m 52 (by rw [tm]; decide)).trans ez10
                have s80 := (xq76.2.2.2.2.2 m 63 (by rw [tm]; decide)).trans ec73
                refine gz_s 1 (pc' := 97) (L' := [some (.ref m), some (.int (zi a)), some (.int (zi b)), some (.int (zi ov)), some (.int (zi bt)), some (.int (zi k))]) (S' := [.int (zi a)]) rfl ?_
                refine gy_ifF rfl (by decide) (by decide) (by omega) (by first | (simp [zc]; done) | (simp only [zc]; omega)) ?_
                refine gz_s 1 (pc' := 101) (L' := [some (.ref m), some (.int (zi a)), some (.int (zi b)), some (.int (zi ov)), some (.int (zi bt)), some (.int (zi k))]) (S' := [.int (zi b)]) rfl ?_
                by_cases hc81 : (b : Int) ≤ 0
                · refine gy_ifT (pc' := 120) rfl (by decide) (by decide) (by omega) hc81 ?_
                  refine gz_s 1 (pc' := 121) (L' := [some (.ref m), some (.int (zi a)), some (.int (zi b)), some (.int (zi ov)), some (.int (zi bt)), some (.int (zi k))]) (S' := [.int (zi a)]) rfl ?_
                  refine gy_ifT (pc' := 144) rfl (by decide) (by decide) (by omega) (by first | (simp [zc]; done) | (simp only [zc]; omega)) ?_
                  refine gz_s 1 (pc' := 145) (L' := [some (.ref m), some (.int (zi a)), some (.int (zi b)), some (.int (zi ov)), some (.int (zi bt)), some (.int (zi k))]) (S' := [.int (zi a)]) rfl ?_
                  refine gy_ifT (pc' := 161) rfl (by decide) (by decide) (by omega) (by first | (simp [zc]; done) | (simp only [zc]; omega)) ?_
                  refine gy_s 2 (pc' := 8) (L' := [some (.ref m), some (.int (zi a)), some (.int (zi b)), some (.int (zi ov)), some (.int (zi bt)), some (.int ((zi k) + zi 1))]) (S' := []) (L2 := [some (.ref m), some (.int (zi a)), some (.int (zi b)), some (.int (zi ov)), some (.int (zi bt)), some (.int (zi (k + 1)))]) (S2 := []) rfl (by simp only [zi_add, zi_sub, zi_mul, zi_neg, zi_and1, zi_and7, zi_and15, zi_and31, zi_and255]) (by simp only [zi_add, zi_sub, zi_mul, zi_neg, zi_and1, zi_and7, zi_and15, zi_and31, zi_and255]) ?_
                  exact gz_wk (ihlp7 hq76 (k + 1) fq76_0 fq76_1 xq76_0 (by omega) sq76 (by omega) (by omega) (by omega) (by omega) (by omega) (by omega) (by omega) (by omega) (by omega) (by omega) s77 s78 efq76_0 efq76_1 yq76_0) (gLw.s (gLw.s (gLw.s (gLw.s (gLw.s (gLw.s gLw.z))))))
                · refine gy_ifF rfl (by decide) (by decide) (by omega) hc81 ?_
                  refine gy_s 7 (pc' := 114) (L' := [some (.ref m), some (.int (zi a)), some (.int (zi b)), some (.int (zi ov)), some (.int (zi bt)), some (.int (zi k))]) (S' := [.int (zi bt), .int (zi b), .int (zi 1), .int ((zi 64) * (zi k)), .ref m]) (L2 := [some (.ref m), some (.int (zi a)), some (.int (zi b)), some (.int (zi ov)), some (.int (zi bt)), some (.int (zi k))]) (S2 := [.int (zi bt), .int (zi b), .int (zi 1), .int (zi (64 * k)), .ref m]) rfl (by simp only [zi_add, zi_sub, zi_mul, zi_neg, zi_and1, zi_and7, zi_and15, zi_and31, zi_and255]) (by simp only [zi_add, zi_sub, zi_mul, zi_neg, zi_and1, zi_and7, zi_and15, zi_and31, zi_and255]) ?_
                  refine gz_call rfl (by decide) rfl (by decide) (by decide) (gcal_of rfl rfl rfl (Nat.le_of_ble_eq_true rfl) (gJ.recv (G := gGG) sq76.1 tm rfl rfl)) (mm_putOthers _ sq76.1 m tm (64 * k) (by omega) 1 (by omega) b (by omega) bt (by omega) fq76_0 efq76_0 (by omega) fq76_1 efq76_1 (by omega) ic s77 (by omega) xq76_0 (by omega) (by omega) (by omega) uq yq76_0) (fun q82 _ wq82 => ?_)
                  obtain ⟨pq82, oq82, hq82⟩ := q82
                  obtain ⟨xq82, fq82_0, fq82_1, xq82_0, gq82, efq82_0, afq82_0, bfq82_0, efq82_1, afq82_1, bfq82_1, axq82_0, bxq82_0, uq82_0, uq82_1, uq82_2, uq82_3, uq82_4, yq82_0⟩ := wq82
                  refine ⟨_, gq82, ?_⟩
                  show gz gPP gGG gcn _ _ 117 [some (.ref m), some (.int (zi a)), some (.int (zi b)), some (.int (zi ov)), some (.int (zi bt)), some (.int (zi k))] [] hq82 _
                  have sq82 := gSs.tr sq76 xq82 (by decide)
                  have s83 := (xq82.2.2.2.2.2 m 67 (by rw [tm]; decide)).trans s77
                  have s84 := (xq82.2.2.2.2.2 m 64 (by rw [tm]; decide)).trans s78
                  have s85 := (xq82.2.2.2.2.2 m 52 (by rw [tm]; decide)).trans s79
                  have s86 := (xq82.2.2.2.2.2 m 63 (by rw [tm]; decide)).trans s80
                  refine gy_s 3 (pc' := 8) (L' := [some (.ref m), some (.int (zi a)), some (.int (zi b)), some (.int (zi ov)), some (.int (zi bt)), some (.int ((zi k) + zi 1))]) (S' := []) (L2 := [some (.ref m), some (.int (zi a)), some (.int (zi b)), some (.int (zi ov)), some (.int (zi bt)), some (.int (zi (k + 1)))]) (S2 := []) rfl (by simp only [zi_add, zi_sub, zi_mul, zi_neg, zi_and1, zi_and7, zi_and15, zi_and31, zi_and255]) (by simp only [zi_add, zi_sub, zi_mul, zi_neg, zi_and1, zi_and7, zi_and15, zi_and31, zi_and255]) ?_
                  exact gz_wk (ihlp7 hq82 (k + 1) fq82_0 fq82_1 xq82_0 (by omega) sq82 (by omega) (by omega) (by omega) (by omega) (by omega) (by omega) (by omega) (by omega) (by omega) (by omega) s83 s84 efq82_0 efq82_1 yq82_0) (gLw.s (gLw.s (gLw.s (gLw.s (gLw.s (gLw.s gLw.z))))))
            · refine gy_ifF rfl (by decide) (by decide) (by omega) hc62 ?_
              refine gz_s 2 (pc' := 41) (L' := [some (.ref m), some (.int (zi a)), some (.int (zi b)), some (.int (zi ov)), some (.int (zi bt)), some (.int (zi k))]) (S' := [.int (zi 0), .ref m]) rfl ?_
              refine gs_put rfl (by decide) rfl sh8 tm rfl rfl rfl rfl (Or.inl rfl) (by decide) (by omega) (by omega) (fun h87 sh87 eh87 fh87 => ?_)
              have pr88 := gOf.pt fh87 tm (by decide) lp7k4
              have s89 := (fh87 m 67 (fun q => absurd q.2 (by decide))).trans lp7k0
              have s90 := (fh87 m 64 (fun q => absurd q.2 (by decide))).trans lp7k1
              have s91 := (fh87 m 59 (fun q => absurd q.2 (by decide))).trans lp7k2
              have s92 := (fh87 m 62 (fun q => absurd q.2 (by decide))).trans lp7k3
              have s93 := (fh87 m 52 (fun q => absurd q.2 (by decide))).trans ez10
              refine gz_s 1 (pc' := 45) (L' := [some (.ref m), some (.int (zi a)), some (.int (zi b)), some (.int (zi ov)), some (.int (zi bt)), some (.int (zi k))]) (S' := [.ref m]) rfl ?_
              refine gs_gtk rfl (by decide) rfl sh87.1 tm rfl rfl s89 ?_
              by_cases hc94 : (ic : Int) = 0
              · refine gy_ifT (pc' := 75) rfl (by decide) (by decide) (by omega) hc94 ?_
                refine gz_s 1 (pc' := 76) (L' := [some (.ref m), some (.int (zi a)), some (.int (zi b)), some (.int (zi ov)), some (.int (zi bt)), some (.int (zi k))]) (S' := [.int (zi a)]) rfl ?_
                by_cases hc95 : ¬ (a : Int) = 0
                · refine gy_ifT (pc' := 96) rfl (by decide) (by decide) (by omega) hc95 ?_
                  refine gz_s 1 (pc' := 97) (L' := [some (.ref m), some (.int (zi a)), some (.int (zi b)), some (.int (zi ov)), some (.int (zi bt)), some (.int (zi k))]) (S' := [.int (zi a)]) rfl ?_
                  refine gy_ifT (pc' := 120) rfl (by decide) (by decide) (by omega) (by first | (simp [zc]; done) | (simp only [zc]; omega)) ?_
                  refine gz_s 1 (pc' := 121) (L' := [some (.ref m), some (.int (zi a)), some (.int (zi b)), some (.int (zi ov)), some (.int (zi bt)), some (.int (zi k))]) (S' := [.int (zi a)]) rfl ?_
                  refine gy_ifF rfl (by decide) (by decide) (by omega) (by first | (simp [zc]; done) | (simp only [zc]; omega)) ?_
                  refine gz_s 1 (pc' := 125) (L' := [some (.ref m), some (.int (zi a)), some (.int (zi b)), some (.int (zi ov)), some (.int (zi bt)), some (.int (zi k))]) (S' := [.int (zi ov)]) rfl ?_
                  by_cases hc96 : ¬ (ov : Int) = 0
                  · refine gy_ifT (pc' := 144) rfl (by decide) (by decide) (by omega) hc96 ?_
                    refine gz_s 1 (pc' := 145) (L' := [some (.ref m), some (.int (zi a)), some (.int (zi b)), some (.int (zi ov)), some (.int (zi bt)), some (.int (zi k))]) (S' := [.int (zi a)]) rfl ?_
                    refine gy_ifF rfl (by decide) (by decide) (by omega) (by first | (simp [zc]; done) | (simp only [zc]; omega)) ?_
                    refine gy_s 7 (pc' := 158) (L' := [some (.ref m), some (.int (zi a)), some (.int (zi b)), some (.int (zi ov)), some (.int (zi bt)), some (.int (zi k))]) (S' := [.int (zi bt), .int (zi b), .int (zi a), .int ((zi 64) * (zi k)), .ref m]) (L2 := [some (.ref m), some (.int (zi a)), some (.int (zi b)), some (.int (zi ov)), some (.int (zi bt)), some (.int (zi k))]) (S2 := [.int (zi bt), .int (zi b), .int (zi a), .int (zi (64 * k)), .ref m]) rfl (by simp only [zi_add, zi_sub, zi_mul, zi_neg, zi_and1, zi_and7, zi_and15, zi_and31, zi_and255]) (by simp only [zi_add, zi_sub, zi_mul, zi_neg, zi_and1, zi_and7, zi_and15, zi_and31, zi_and255]) ?_
                    refine gz_call rfl (by decide) rfl (by decide) (by decide) (gcal_of rfl rfl rfl (Nat.le_of_ble_eq_true rfl) (gJ.recv (G := gGG) sh87.1 tm rfl rfl)) (mm_putMore _ sh87.1 m tm (64 * k) (by omega) a (by omega) b (by omega) bt (by omega) wv s91 (by omega) bv s92 (by omega) ic s89 (by omega) sov (by omega) (by omega) (by omega) uq pr88) (fun q97 _ wq97 => ?_)
                    obtain ⟨pq97, oq97, hq97⟩ := q97
                    obtain ⟨xq97, fq97_0, fq97_1, xq97_0, gq97, efq97_0, afq97_0, bfq97_0, efq97_1, afq97_1, bfq97_1, axq97_0, bxq97_0, uq97_0, uq97_1, uq97_2, uq97_3, uq97_4, yq97_0⟩ := wq97
                    refine ⟨_, gq97, ?_⟩
                    show gz gPP gGG gcn _ _ 161 [some (.ref m), some (.int (zi a)), some (.int (zi b)), some (.int (zi ov)), some (.int (zi bt)), some (.int (zi k))] [] hq97 _
                    have sq97 := gSs.tr sh87 xq97 (by decide)
                    have s98 := (xq97.2.2.2.2.2 m 67 (by rw [tm]; decide)).trans s89
                    have s99 := (xq97.2.2.2.2.2 m 64 (by rw [tm]; decide)).trans s90
                    have s100 := (xq97.2.2.2.2.2 m 52 (by rw [tm]; decide)).trans s93
                    have s101 := (xq97.2.2.2.2.2 m 74 (by rw [tm]; decide)).trans eh87
                    refine gy_s 2 (pc' := 8) (L' := [some (.ref m), some (.int (zi a)), some (.int (zi b)), some (.int (zi ov)), some (.int (zi bt)), some (.int ((zi k) + zi 1))]) (S' := []) (L2 := [some (.ref m), some (.int (zi a)), some (.int (zi b)), some (.int (zi ov)), some (.int (zi bt)), some (.int (zi (k + 1)))]) (S2 := []) rfl (by simp only [zi_add, zi_sub, zi_mul, zi_neg, zi_and1, zi_and7, zi_and15, zi_and31, zi_and255]) (by simp only [zi_add, zi_sub, zi_mul, zi_neg, zi_and1, zi_and7, zi_and15, zi_and31, zi_and255]) ?_
                    exact gz_wk (ihlp7 hq97 (k + 1) fq97_0 fq97_1 xq97_0 (by omega) sq97 (by omega) (by omega) (by omega) (by omega) (by omega) (by omega) (by omega) (by omega) (by omega) (by omega) s98 s99 efq97_0 efq97_1 yq97_0) (gLw.s (gLw.s (gLw.s (gLw.s (gLw.s (gLw.s gLw.z))))))
                  · refine gy_ifF rfl (by decide) (by decide) (by omega) hc96 ?_
                    refine gy_s 7 (pc' := 138) (L' := [some (.ref m), some (.int (zi a)), some (.int (zi b)), some (.int (zi ov)), some (.int (zi bt)), some (.int (zi k))]) (S' := [.int (zi bt), .int (zi b), .int (zi a), .int ((zi 64) * (zi k)), .ref m]) (L2 := [some (.ref m), some (.int (zi a)), some (.int (zi b)), some (.int (zi ov)), some (.int (zi bt)), some (.int (zi k))]) (S2 := [.int (zi bt), .int (zi b), .int (zi a), .int (zi (64 * k)), .ref m]) rfl (by simp only [zi_add, zi_sub, zi_mul, zi_neg, zi_and1, zi_and7, zi_and15, zi_and31, zi_and255]) (by simp only [zi_add, zi_sub, zi_mul, zi_neg, zi_and1, zi_and7, zi_and15, zi_and31, zi_and255]) ?_
                    refine gz_call rfl (by decide) rfl (by decide) (by decide) (gcal_of rfl rfl rfl (Nat.le_of_ble_eq_true rfl) (gJ.recv (G := gGG) sh87.1 tm rfl rfl)) (mm_putOthers _ sh87.1 m tm (64 * k) (by omega) a (by omega) b (by omega) bt (by omega) wv s91 (by omega) bv s92 (by omega) ic s89 (by omega) sov (by omega) (by omega) (by omega) uq pr88) (fun q102 _ wq102 => ?_)
                    obtain ⟨pq102, oq102, hq102⟩ := q102
                    obtain ⟨xq102, fq102_0, fq102_1, xq102_0, gq102, efq102_0, afq102_0, bfq102_0, efq102_1, afq102_1, bfq102_1, axq102_0, bxq102_0, uq102_0, uq102_1, uq102_2, uq102_3, uq102_4, yq102_0⟩ := wq102
                    refine ⟨_, gq102, ?_⟩
                    show gz gPP gGG gcn _ _ 141 [some (.ref m), some (.int (zi a)), some (.int (zi b)), some (.int (zi ov)), some (.int (zi bt)), some (.int (zi k))] [] hq102 _
                    have sq102 := gSs.tr sh87 xq102 (by decide)
                    have s103 := (xq102.2.2.2.2.2 m 67 (by rw [tm]; decide)).trans s89
                    have s104 := (xq102.2.2.2.2.2 m 64 (by rw [tm]; decide)).trans s90
                    have s105 := (xq102.2.2.2.2.2 m 52 (by rw [tm]; decide)).trans s93
                    have s106 := (xq102.2.2.2.2.2 m 74 (by rw [tm]; decide)).trans eh87
                    refine gy_s 3 (pc' := 8) (L' := [some (.ref m), some (.int (zi a)), some (.int (zi b)), some (.int (zi ov)), some (.int (zi bt)), some (.int ((zi k) + zi 1))]) (S' := []) (L2 := [some (.ref m), some (.int (zi a)), some (.int (zi b)), some (.int (zi ov)), some (.int (zi bt)), some (.int (zi (k + 1)))]) (S2 := []) rfl (by simp only [zi_add, zi_sub, zi_mul, zi_neg, zi_and1, zi_and7, zi_and15, zi_and31, zi_and255]) (by simp only [zi_add, zi_sub, zi_mul, zi_neg, zi_and1, zi_and7, zi_and15, zi_and31, zi_and255]) ?_
                    exact gz_wk (ihlp7 hq102 (k + 1) fq102_0 fq102_1 xq102_0 (by omega) sq102 (by omega) (by omega) (by omega) (by omega) (by omega) (by omega) (by omega) (by omega) (by omega) (by omega) s103 s104 efq102_0 efq102_1 yq102_0) (gLw.s (gLw.s (gLw.s (gLw.s (gLw.s (gLw.s gLw.z))))))
                · refine gy_ifF rfl (by decide) (by decide) (by omega) hc95 ?_
                  refine gz_s 2 (pc' := 81) (L' := [some (.ref m), some (.int (zi a)), some (.int (zi b)), some (.int (zi ov)), some (.int (zi bt)), some (.int (zi k))]) (S' := [.ref m, .ref m]) rfl ?_
                  refine gs_gtr rfl (by decide) rfl sh87.1 tm rfl rfl rfl (fun c107 ec107 tc107 => ?_)
                  refine gy_s 3 (pc' := 89) (L' := [some (.ref m), some (.int (zi a)), some (.int (zi b)), some (.int (zi ov)), some (.int (zi bt)), some (.int (zi k))]) (S' := [.int ((zi 64) * (zi k)), .ref c107, .ref m]) (L2 := [some (.ref m), some (.int (zi a)), some (.int (zi b)), some (.int (zi ov)), some (.int (zi bt)), some (.int (zi k))]) (S2 := [.int (zi (64 * k)), .ref c107, .ref m]) rfl (by simp only [zi_add, zi_sub, zi_mul, zi_neg, zi_and1, zi_and7, zi_and15, zi_and31, zi_and255]) (by simp only [zi_add, zi_sub, zi_mul, zi_neg, zi_and1, zi_and7, zi_and15, zi_and31, zi_and255]) ?_
                  have hl108 : 1024 ≤ h87.2.2.2.1 c107 ∧ h87.2.2.2.1 c107 ≤ 1024 := gJ.rowl (G := gGG) sh87.1 tc107 rfl
                  refine gs_ald rfl (by decide) sh87.1 tc107 rfl rfl rfl (by decide) (fun _ => rfl) (by omega) (by omega) (fun z109 ez109 az109 bz109 => ?_)
                  refine gz_s 2 (pc' := 93) (L' := [some (.ref m), some (.int (zi a)), some (.int (zi b)), some (.int (zi ov)), some (.int (zi bt)), some (.int (zi k))]) (S' := [.int (zi bt), .int (zi ov), .int (zi z109), .ref m]) rfl ?_
                  refine gz_call rfl (by decide) rfl (by decide) (by decide) (gcal_of rfl rfl rfl (Nat.le_of_ble_eq_true rfl) (gJ.recv (G := gGG) sh87.1 tm rfl rfl)) (mm_putFirst _ sh87.1 m tm z109 (by omega) ov (by omega) bt (by omega) wv s91 (by omega) bv s92 (by omega) ic s89 (by omega) sov (by omega) (by omega) uq pr88) (fun q110 _ wq110 => ?_)
                  obtain ⟨pq110, oq110, hq110⟩ := q110
                  obtain ⟨xq110, fq110_0, fq110_1, xq110_0, gq110, efq110_0, afq110_0, bfq110_0, efq110_1, afq110_1, bfq110_1, axq110_0, bxq110_0, uq110_0, uq110_1, uq110_2, uq110_3, uq110_4, yq110_0⟩ := wq110
                  refine ⟨_, gq110, ?_⟩
                  show gz gPP gGG gcn _ _ 96 [some (.ref m), some (.int (zi a)), some (.int (zi b)), some (.int (zi ov)), some (.int (zi bt)), some (.int (zi k))] [] hq110 _
                  have sq110 := gSs.tr sh87 xq110 (by decide)
                  have s111 := (xq110.2.2.2.2.2 m 67 (by rw [tm]; decide)).trans s89
                  have s112 := (xq110.2.2.2.2.2 m 64 (by rw [tm]; decide)).trans s90
                  have s113 := (xq110.2.2.2.2.2 m 52 (by rw [tm]; decide)).trans s93
                  have s114 := (xq110.2.2.2.2.2 m 63 (by rw [tm]; decide)).trans ec107
                  refine gz_s 1 (pc' := 97) (L' := [some (.ref m), some (.int (zi a)), some (.int (zi b)), some (.int (zi ov)), some (.int (zi bt)), some (.int (zi k))]) (S' := [.int (zi a)]) rfl ?_
                  refine gy_ifF rfl (by decide) (by decide) (by omega) (by first | (simp [zc]; done) | (simp only [zc]; omega)) ?_
                  refine gz_s 1 (pc' := 101) (L' := [some (.ref m), some (.int (zi a)), some (.int (zi b)), some (.int (zi ov)), some (.int (zi bt)), some (.int (zi k))]) (S' := [.int (zi b)]) rfl ?_
                  by_cases hc115 : (b : Int) ≤ 0
                  · refine gy_ifT (pc' := 120) rfl (by decide) (by decide) (by omega) hc115 ?_
                    refine gz_s 1 (pc' := 121) (L' := [some (.ref m), some (.int (zi a)), some (.int (zi b)), some (.int (zi ov)), some (.int (zi bt)), some (.int (zi k))]) (S' := [.int (zi a)]) rfl ?_
                    refine gy_ifT (pc' := 144) rfl (by decide) (by decide) (by omega) (by first | (simp [zc]; done) | (simp only [zc]; omega)) ?_
                    refine gz_s 1 (pc' := 145) (L' := [some (.ref m), some (.int (zi a)), some (.int (zi b)), some (.int (zi ov)), some (.int (zi bt)), some (.int (zi k))]) (S' := [.int (zi a)]) rfl ?_
                    refine gy_ifT (pc' := 161) rfl (by decide) (by decide) (by omega) (by first | (simp [zc]; done) | (simp only [zc]; omega)) ?_
                    refine gy_s 2 (pc' := 8) (L' := [some (.ref m), some (.int (zi a)), some (.int (zi b)), some (.int (zi ov)), some (.int (zi bt)), some (.int ((zi k) + zi 1))]) (S' := []) (L2 := [some (.ref m), some (.int (zi a)), some (.int (zi b)), some (.int (zi ov)), some (.int (zi bt)), some (.int (zi (k + 1)))]) (S2 := []) rfl (by simp only [zi_add, zi_sub, zi_mul, zi_neg, zi_and1, zi_and7, zi_and15, zi_and31, zi_and255]) (by simp only [zi_add, zi_sub, zi_mul, zi_neg, zi_and1, zi_and7, zi_and15, zi_and31, zi_and255]) ?_
                    exact gz_wk (ihlp7 hq110 (k + 1) fq110_0 fq110_1 xq110_0 (by omega) sq110 (by omega) (by omega) (by omega) (by omega) (by omega) (by omega) (by omega) (by omega) (by omega) (by omega) s111 s112 efq110_0 efq110_1 yq110_0) (gLw.s (gLw.s (gLw.s (gLw.s (gLw.s (gLw.s gLw.z))))))
                  · refine gy_ifF rfl (by decide) (by decide) (by omega) hc115 ?_
                    refine gy_s 7 (pc' := 114) (L' := [some (.ref m), some (.int (zi a)), some (.int (zi b)), some (.int (zi ov)), some (.int (zi bt)), some (.int (zi k))]) (S' := [.int (zi bt), .int (zi b), .int (zi 1), .int ((zi 64) * (zi k)), .ref m]) (L2 := [some (.ref m), some (.int (zi a)), some (.int (zi b)), some (.int (zi ov)), some (.int (zi bt)), some (.int (zi k))]) (S2 := [.int (zi bt), .int (zi b), .int (zi 1), .int (zi (64 * k)), .ref m]) rfl (by simp only [zi_add, zi_sub, zi_mul, zi_neg, zi_and1, zi_and7, zi_and15, zi_and31, zi_and255]) (by simp only [zi_add, zi_sub, zi_mul, zi_neg, zi_and1, zi_and7, zi_and15, zi_and31, zi_and255]) ?_
                    refine gz_call rfl (by decide) rfl (by decide) (by decide) (gcal_of rfl rfl rfl (Nat.le_of_ble_eq_true rfl) (gJ.recv (G := gGG) sq110.1 tm rfl rfl)) (mm_putOthers _ sq110.1 m tm (64 * k) (by omega) 1 (by omega) b (by omega) bt (by omega) fq110_0 efq110_0 (by omega) fq110_1 efq110_1 (by omega) ic s111 (by omega) xq110_0 (by omega) (by omega) (by omega) uq yq110_0) (fun q116 _ wq116 => ?_)
                    obtain ⟨pq116, oq116, hq116⟩ := q116
                    obtain ⟨xq116, fq116_0, fq116_1, xq116_0, gq116, efq116_0, afq116_0, bfq116_0, efq116_1, afq116_1, bfq116_1, axq116_0, bxq116_0, uq116_0, uq116_1, uq116_2, uq116_3, uq116_4, yq116_0⟩ := wq116
                    refine ⟨_, gq116, ?_⟩
                    show gz gPP gGG gcn _ _ 117 [some (.ref m), some (.int (zi a)), some (.int (zi b)), some (.int (zi ov)), some (.int (zi bt)), some (.int (zi k))] [] hq116 _
                    have sq116 := gSs.tr sq110 xq116 (by decide)
                    have s117 := (xq116.2.2.2.2.2 m 67 (by rw [tm]; decide)).trans s111
                    have s118 := (xq116.2.2.2.2.2 m 64 (by rw [tm]; decide)).trans s112
                    have s119 := (xq116.2.2.2.2.2 m 52 (by rw [tm]; decide)).trans s113
                    have s120 := (xq116.2.2.2.2.2 m 63 (by rw [tm]; decide)).trans s114
                    refine gy_s 3 (pc' := 8) (L' := [some (.ref m), some (.int (zi a)), some (.int (zi b)), some (.int (zi ov)), some (.int (zi bt)), some (.int ((zi k) + zi 1))]) (S' := []) (L2 := [some (.ref m), some (.int (zi a)), some (.int (zi b)), some (.int (zi ov)), some (.int (zi bt)), some (.int (zi (k + 1)))]) (S2 := []) rfl (by simp only [zi_add, zi_sub, zi_mul, zi_neg, zi_and1, zi_and7, zi_and15, zi_and31, zi_and255]) (by simp only [zi_add, zi_sub, zi_mul, zi_neg, zi_and1, zi_and7, zi_and15, zi_and31, zi_and255]) ?_
                    exact gz_wk (ihlp7 hq116 (k + 1) fq116_0 fq116_1 xq116_0 (by omega) sq116 (by omega) (by omega) (by omega) (by omega) (by omega) (by omega) (by omega) (by omega) (by omega) (by omega) s117 s118 efq116_0 efq116_1 yq116_0) (gLw.s (gLw.s (gLw.s (gLw.s (gLw.s (gLw.s gLw.z))))))
              · refine gy_ifF rfl (by decide) (by decide) (by omega) hc94 ?_
                refine gz_s 1 (pc' := 52) (L' := [some (.ref m), some (.int (zi a)), some (.int (zi b)), some (.int (zi ov)), some (.int (zi bt)), some (.int (zi k))]) (S' := [.ref m]) rfl ?_
                refine gz_call rfl (by decide) rfl (by decide) (by decide) (gcal_of rfl rfl rfl (Nat.le_of_ble_eq_true rfl) (gJ.recv (G := gGG) sh87.1 tm rfl rfl)) (mm_fillByte _ sh87.1 m tm wv s91 (by omega) bv s92 (by omega) ic s89 (by omega) (by omega) (by omega)) (fun q121 _ wq121 => ?_)
                obtain ⟨pq121, oq121, hq121⟩ := q121
                obtain ⟨xq121, fq121_0, fq121_1, gq121, efq121_0, afq121_0, bfq121_0, efq121_1, afq121_1, bfq121_1, uq121_0, uq121_1, uq121_2⟩ := wq121
                refine ⟨_, gq121, ?_⟩
                show gz gPP gGG gcn _ _ 55 [some (.ref m), some (.int (zi a)), some (.int (zi b)), some (.int (zi ov)), some (.int (zi bt)), some (.int (zi k))] [] hq121 _
                have sq121 := gSs.tr sh87 xq121 (by decide)
                have s122 := (xq121.2.2.2.2.2 m 67 (by rw [tm]; decide)).trans s89
                have s123 := (xq121.2.2.2.2.2 m 64 (by rw [tm]; decide)).trans s90
                have s124 := (xq121.2.2.2.2.2 m 52 (by rw [tm]; decide)).trans s93
                have s125 := (xq121.2.2.2.2.2 m 74 (by rw [tm]; decide)).trans eh87
                have pr126 := gOf.fr xq121.2 (by decide) pr88
                refine gz_s 4 (pc' := 62) (L' := [some (.ref m), some (.int (zi a)), some (.int (zi b)), some (.int (zi ov)), some (.int (zi bt)), some (.int (zi k))]) (S' := [.ref m, .int (zi k), .int (zi 208), .ref m]) rfl ?_
                refine gs_gtk rfl (by decide) rfl sq121.1 tm rfl rfl s124 ?_
                refine gy_div rfl (by decide) (by omega) (by omega) ?_
                have hd127 := zd_f (x := k) (y := z10) (by omega) (by omega)
                refine gy_s 3 (pc' := 70) (L' := [some (.ref m), some (.int (zi a)), some (.int (zi b)), some (.int (zi ov)), some (.int (zi bt)), some (.int (zi k))]) (S' := [.int (zi 8), .int ((zi (k / z10)) - (zi 1)), .int (zi 208), .ref m]) (L2 := [some (.ref m), some (.int (zi a)), some (.int (zi b)), some (.int (zi ov)), some (.int (zi bt)), some (.int (zi k))]) (S2 := [.int (zi 8), .int (zi ((k / z10) - 1)), .int (zi 208), .ref m]) rfl (by simp only [zi_add, zi_sub, zi_mul, zi_neg, zi_and1, zi_and7, zi_and15, zi_and31, zi_and255]) (by simp only [zi_add, zi_sub, zi_mul, zi_neg, zi_and1, zi_and7, zi_and15, zi_and31, zi_and255]) ?_
                refine gy_rmv rfl (by decide) (by omega) (by omega) (fun z128 az128 bz128 cz128 => ?_)
                refine gy_s 1 (pc' := 72) (L' := [some (.ref m), some (.int (zi a)), some (.int (zi b)), some (.int (zi ov)), some (.int (zi bt)), some (.int (zi k))]) (S' := [.int ((zi 208) + (zi z128)), .ref m]) (L2 := [some (.ref m), some (.int (zi a)), some (.int (zi b)), some (.int (zi ov)), some (.int (zi bt)), some (.int (zi k))]) (S2 := [.int (zi (208 + z128)), .ref m]) rfl (by simp only [zi_add, zi_sub, zi_mul, zi_neg, zi_and1, zi_and7, zi_and15, zi_and31, zi_and255]) (by simp only [zi_add, zi_sub, zi_mul, zi_neg, zi_and1, zi_and7, zi_and15, zi_and31, zi_and255]) ?_
                refine gz_call rfl (by decide) rfl (by decide) (by decide) (gcal_of rfl rfl rfl (Nat.le_of_ble_eq_true rfl) (gJ.recv (G := gGG) sq121.1 tm rfl rfl)) (mm_putMarker _ sq121.1 m tm (208 + z128) (by omega) fq121_0 efq121_0 (by omega)) (fun q129 _ wq129 => ?_)
                obtain ⟨pq129, oq129, hq129⟩ := q129
                obtain ⟨xq129, fq129_0, gq129, efq129_0, afq129_0, bfq129_0, uq129_0⟩ := wq129
                refine ⟨_, gq129, ?_⟩
                show gz gPP gGG gcn _ _ 75 [some (.ref m), some (.int (zi a)), some (.int (zi b)), some (.int (zi ov)), some (.int (zi bt)), some (.int (zi k))] [] hq129 _
                have sq129 := gSs.tr sq121 xq129 (by decide)
                have s130 := (xq129.2.2.2.2.2 m 67 (by rw [tm]; decide)).trans s122
                have s131 := (xq129.2.2.2.2.2 m 64 (by rw [tm]; decide)).trans s123
                have s132 := (xq129.2.2.2.2.2 m 52 (by rw [tm]; decide)).trans s124
                have s133 := (xq129.2.2.2.2.2 m 74 (by rw [tm]; decide)).trans s125
                have s134 := (xq129.2.2.2.2.2 m 62 (by rw [tm]; decide)).trans efq121_1
                have pr135 := gOf.fr xq129.2 (by decide) pr126
                refine gz_s 1 (pc' := 76) (L' := [some (.ref m), some (.int (zi a)), some (.int (zi b)), some (.int (zi ov)), some (.int (zi bt)), some (.int (zi k))]) (S' := [.int (zi a)]) rfl ?_
                by_cases hc136 : ¬ (a : Int) = 0
                · refine gy_ifT (pc' := 96) rfl (by decide) (by decide) (by omega) hc136 ?_
                  refine gz_s 1 (pc' := 97) (L' := [some (.ref m), some (.int (zi a)), some (.int (zi b)), some (.int (zi ov)), some (.int (zi bt)), some (.int (zi k))]) (S' := [.int (zi a)]) rfl ?_
                  refine gy_ifT (pc' := 120) rfl (by decide) (by decide) (by omega) (by first | (simp [zc]; done) | (simp only [zc]; omega)) ?_
                  refine gz_s 1 (pc' := 121) (L' := [some (.ref m), some (.int (zi a)), some (.int (zi b)), some (.int (zi ov)), some (.int (zi bt)), some (.int (zi k))]) (S' := [.int (zi a)]) rfl ?_
                  refine gy_ifF rfl (by decide) (by decide) (by omega) (by first | (simp [zc]; done) | (simp only [zc]; omega)) ?_
                  refine gz_s 1 (pc' := 125) (L' := [some (.ref m), some (.int (zi a)), some (.int (zi b)), some (.int (zi ov)), some (.int (zi bt)), some (.int (zi k))]) (S' := [.int (zi ov)]) rfl ?_
                  by_cases hc137 : ¬ (ov : Int) = 0
                  · refine gy_ifT (pc' := 144) rfl (by decide) (by decide) (by omega) hc137 ?_
                    refine gz_s 1 (pc' := 145) (L' := [some (.ref m), some (.int (zi a)), some (.int (zi b)), some (.int (zi ov)), some (.int (zi bt)), some (.int (zi k))]) (S' := [.int (zi a)]) rfl ?_
                    refine gy_ifF rfl (by decide) (by decide) (by omega) (by first | (simp [zc]; done) | (simp only [zc]; omega)) ?_
                    refine gy_s 7 (pc' := 158) (L' := [some (.ref m), some (.int (zi a)), some (.int (zi b)), some (.int (zi ov)), some (.int (zi bt)), some (.int (zi k))]) (S' := [.int (zi bt), .int (zi b), .int (zi a), .int ((zi 64) * (zi k)), .ref m]) (L2 := [some (.ref m), some (.int (zi a)), some (.int (zi b)), some (.int (zi ov)), some (.int (zi bt)), some (.int (zi k))]) (S2 := [.int (zi bt), .int (zi b), .int (zi a), .int (zi (64 * k)), .ref m]) rfl (by simp only [zi_add, zi_sub, zi_mul, zi_neg, zi_and1, zi_and7, zi_and15, zi_and31, zi_and255]) (by simp only [zi_add, zi_sub, zi_mul, zi_neg, zi_and1, zi_and7, zi_and15, zi_and31, zi_and255]) ?_
                    refine gz_call rfl (by decide) rfl (by decide) (by decide) (gcal_of rfl rfl rfl (Nat.le_of_ble_eq_true rfl) (gJ.recv (G := gGG) sq129.1 tm rfl rfl)) (mm_putMore _ sq129.1 m tm (64 * k) (by omega) a (by omega) b (by omega) bt (by omega) fq129_0 efq129_0 (by omega) fq121_1 s134 (by omega) ic s130 (by omega) sov (by omega) (by omega) (by omega) uq pr135) (fun q138 _ wq138 => ?_)
                    obtain ⟨pq138, oq138, hq138⟩ := q138
                    obtain ⟨xq138, fq138_0, fq138_1, xq138_0, gq138, efq138_0, afq138_0, bfq138_0, efq138_1, afq138_1, bfq138_1, axq138_0, bxq138_0, uq138_0, uq138_1, uq138_2, uq138_3, uq138_4, yq138_0⟩ := wq138
                    refine ⟨_, gq138, ?_⟩
                    show gz gPP gGG gcn _ _ 161 [some (.ref m), some (.int (zi a)), some (.int (zi b)), some (.int (zi ov)), some (.int (zi bt)), some (.int (zi k))] [] hq138 _
                    have sq138 := gSs.tr sq129 xq138 (by decide)
                    have s139 := (xq138.2.2.2.2.2 m 67 (by rw [tm]; decide)).trans s130
                    have s140 := (xq138.2.2.2.2.2 m 64 (by rw [tm]; decide)).trans s131
                    have s141 := (xq138.2.2.2.2.2 m 52 (by rw [tm]; decide)).trans s132
                    have s142 := (xq138.2.2.2.2.2 m 74 (by rw [tm]; decide)).trans s133
                    refine gy_s 2 (pc' := 8) (L' := [some (.ref m), some (.int (zi a)), some (.int (zi b)), some (.int (zi ov)), some (.int (zi bt)), some (.int ((zi k) + zi 1))]) (S' := []) (L2 := [some (.ref m), some (.int (zi a)), some (.int (zi b)), some (.int (zi ov)), some (.int (zi bt)), some (.int (zi (k + 1)))]) (S2 := []) rfl (by simp only [zi_add, zi_sub, zi_mul, zi_neg, zi_and1, zi_and7, zi_and15, zi_and31, zi_and255]) (by simp only [zi_add, zi_sub, zi_mul, zi_neg, zi_and1, zi_and7, zi_and15, zi_and31, zi_and255]) ?_
                    exact gz_wk (ihlp7 hq138 (k + 1) fq138_0 fq138_1 xq138_0 (by omega) sq138 (by omega) (by omega) (by omega) (by omega) (by omega) (by omega) (by omega) (by omega) (by omega) (by omega) s139 s140 efq138_0 efq138_1 yq138_0) (gLw.s (gLw.s (gLw.s (gLw.s (gLw.s (gLw.s gLw.z))))))
                  · refine gy_ifF rfl (by decide) (by decide) (by omega) hc137 ?_
                    refine gy_s 7 (pc' := 138) (L' := [some (.ref m), some (.int (zi a)), some (.int (zi b)), some (.int (zi ov)), some (.int (zi bt)), some (.int (zi k))]) (S' := [.int (zi bt), .int (zi b), .int (zi a), .int ((zi 64) * (zi k)), .ref m]) (L2 := [some (.ref m), some (.int (zi a)), some (.int (zi b)), some (.int (zi ov)), some (.int (zi bt)), some (.int (zi k))]) (S2 := [.int (zi bt), .int (zi b), .int (zi a), .int (zi (64 * k)), .ref m]) rfl (by simp only [zi_add, zi_sub, zi_mul, zi_neg, zi_and1, zi_and7, zi_and15, zi_and31, zi_and255]) (by simp only [zi_add, zi_sub, zi_mul, zi_neg, zi_and1, zi_and7, zi_and15, zi_and31, zi_and255]) ?_
                    refine gz_call rfl (by decide) rfl (by decide) (by decide) (gcal_of rfl rfl rfl (Nat.le_of_ble_eq_true rfl) (gJ.recv (G := gGG) sq129.1 tm rfl rfl)) (mm_putOthers _ sq129.1 m tm (64 * k) (by omega) a (by omega) b (by omega) bt (by omega) fq129_0 efq129_0 (by omega) fq121_1 s134 (by omega) ic s130 (by omega) sov (by omega) (by omega) (by omega) uq pr135) (fun q143 _ wq143 => ?_)
                    obtain ⟨pq143, oq143, hq143⟩ := q143
                    obtain ⟨xq143, fq143_0, fq143_1, xq143_0, gq143, efq143_0, afq143_0, bfq143_0, efq143_1, afq143_1, bfq143_1, axq143_0, bxq143_0, uq143_0, uq143_1, uq143_2, uq143_3, uq143_4, yq143_0⟩ := wq143
                    refine ⟨_, gq143, ?_⟩
                    show gz gPP gGG gcn _ _ 141 [some (.ref m), some (.int (zi a)), some (.int (zi b)), some (.int (zi ov)), some (.int (zi bt)), some (.int (zi k))] [] hq143 _
                    have sq143 := gSs.tr sq129 xq143 (by decide)
                    have s144 := (xq143.2.2.2.2.2 m 67 (by rw [tm]; decide)).trans s130
                    have s145 := (xq143.2.2.2.2.2 m 64 (by rw [tm]; decide)).trans s131
                    have s146 := (xq143.2.2.2.2.2 m 52 (by rw [tm]; decide)).trans s132
                    have s147 := (xq143.2.2.2.2.2 m 74 (by rw [tm]; decide)).trans s133
                    refine gy_s 3 (pc' := 8) (L' := [some (.ref m), some (.int (zi a)), some (.int (zi b)), some (.int (zi ov)), some (.int (zi bt)), some (.int ((zi k) + zi 1))]) (S' := []) (L2 := [some (.ref m), some (.int (zi a)), some (.int (zi b)), some (.int (zi ov)), some (.int (zi bt)), some (.int (zi (k + 1)))]) (S2 := []) rfl (by simp only [zi_add, zi_sub, zi_mul, zi_neg, zi_and1, zi_and7, zi_and15, zi_and31, zi_and255]) (by simp only [zi_add, zi_sub, zi_mul, zi_neg, zi_and1, zi_and7, zi_and15, zi_and31, zi_and255]) ?_
                    exact gz_wk (ihlp7 hq143 (k + 1) fq143_0 fq143_1 xq143_0 (by omega) sq143 (by omega) (by omega) (by omega) (by omega) (by omega) (by omega) (by omega) (by omega) (by omega) (by omega) s144 s145 efq143_0 efq143_1 yq143_0) (gLw.s (gLw.s (gLw.s (gLw.s (gLw.s (gLw.s gLw.z))))))
                · refine gy_ifF rfl (by decide) (by decide) (by omega) hc136 ?_
                  refine gz_s 2 (pc' := 81) (L' := [some (.ref m), some (.int (zi a)), some (.int (zi b)), some (.int (zi ov)), some (.int (zi bt)), some (.int (zi k))]) (S' := [.ref m, .ref m]) rfl ?_
                  refine gs_gtr rfl (by decide) rfl sq129.1 tm rfl rfl rfl (fun c148 ec148 tc148 => ?_)
                  refine gy_s 3 (pc' := 89) (L' := [some (.ref m), some (.int (zi a)), some (.int (zi b)), some (.int (zi ov)), some (.int (zi bt)), some (.int (zi k))]) (S' := [.int ((zi 64) * (zi k)), .ref c148, .ref m]) (L2 := [some (.ref m), some (.int (zi a)), some (.int (zi b)), some (.int (zi ov)), some (.int (zi bt)), some (.int (zi k))]) (S2 := [.int (zi (64 * k)), .ref c148, .ref m]) rfl (by simp only [zi_add, zi_sub, zi_mul, zi_neg, zi_and1, zi_and7, zi_and15, zi_and31, zi_and255]) (by simp only [zi_add, zi_sub, zi_mul, zi_neg, zi_and1, zi_and7, zi_and15, zi_and31, zi_and255]) ?_
                  have hl149 : 1024 ≤ hq129.2.2.2.1 c148 ∧ hq129.2.2.2.1 c148 ≤ 1024 := gJ.rowl (G := gGG) sq129.1 tc148 rfl
                  refine gs_ald rfl (by decide) sq129.1 tc148 rfl rfl rfl (by decide) (fun _ => rfl) (by omega) (by omega) (fun z150 ez150 az150 bz150 => ?_)
                  refine gz_s 2 (pc' := 93) (L' := [some (.ref m), some (.int (zi a)), some (.int (zi b)), some (.int (zi ov)), some (.int (zi bt)), some (.int (zi k))]) (S' := [.int (zi bt), .int (zi ov), .int (zi z150), .ref m]) rfl ?_
                  refine gz_call rfl (by decide) rfl (by decide) (by decide) (gcal_of rfl rfl rfl (Nat.le_of_ble_eq_true rfl) (gJ.recv (G := gGG) sq129.1 tm rfl rfl)) (mm_putFirst _ sq129.1 m tm z150 (by omega) ov (by omega) bt (by omega) fq129_0 efq129_0 (by omega) fq121_1 s134 (by omega) ic s130 (by omega) sov (by omega) (by omega) uq pr135) (fun q151 _ wq151 => ?_)
                  obtain ⟨pq151, oq151, hq151⟩ := q151
                  obtain ⟨xq151, fq151_0, fq151_1, xq151_0, gq151, efq151_0, afq151_0, bfq151_0, efq151_1, afq151_1, bfq151_1, axq151_0, bxq151_0, uq151_0, uq151_1, uq151_2, uq151_3, uq151_4, yq151_0⟩ := wq151
                  refine ⟨_, gq151, ?_⟩
                  show gz gPP gGG gcn _ _ 96 [some (.ref m), some (.int (zi a)), some (.int (zi b)), some (.int (zi ov)), some (.int (zi bt)), some (.int (zi k))] [] hq151 _
                  have sq151 := gSs.tr sq129 xq151 (by decide)
                  have s152 := (xq151.2.2.2.2.2 m 67 (by rw [tm]; decide)).trans s130
                  have s153 := (xq151.2.2.2.2.2 m 64 (by rw [tm]; decide)).trans s131
                  have s154 := (xq151.2.2.2.2.2 m 52 (by rw [tm]; decide)).trans s132
                  have s155 := (xq151.2.2.2.2.2 m 63 (by rw [tm]; decide)).trans ec148
                  refine gz_s 1 (pc' := 97) (L' := [some (.ref m), some (.int (zi a)), some (.int (zi b)), some (.int (zi ov)), some (.int (zi bt)), some (.int (zi k))]) (S' := [.int (zi a)]) rfl ?_
                  refine gy_ifF rfl (by decide) (by decide) (by omega) (by first | (simp [zc]; done) | (simp only [zc]; omega)) ?_
                  refine gz_s 1 (pc' := 101) (L' := [some (.ref m), some (.int (zi a)), some (.int (zi b)), some (.int (zi ov)), some (.int (zi bt)), some (.int (zi k))]) (S' := [.int (zi b)]) rfl ?_
                  by_cases hc156 : (b : Int) ≤ 0
                  · refine gy_ifT (pc' := 120) rfl (by decide) (by decide) (by omega) hc156 ?_
                    refine gz_s 1 (pc' := 121) (L' := [some (.ref m), some (.int (zi a)), some (.int (zi b)), some (.int (zi ov)), some (.int (zi bt)), some (.int (zi k))]) (S' := [.int (zi a)]) rfl ?_
                    refine gy_ifT (pc' := 144) rfl (by decide) (by decide) (by omega) (by first | (simp [zc]; done) | (simp only [zc]; omega)) ?_
                    refine gz_s 1 (pc' := 145) (L' := [some (.ref m), some (.int (zi a)), some (.int (zi b)), some (.int (zi ov)), some (.int (zi bt)), some (.int (zi k))]) (S' := [.int (zi a)]) rfl ?_
                    refine gy_ifT (pc' := 161) rfl (by decide) (by decide) (by omega) (by first | (simp [zc]; done) | (simp only [zc]; omega)) ?_
                    refine gy_s 2 (pc' := 8) (L' := [some (.ref m), some (.int (zi a)), some (.int (zi b)), some (.int (zi ov)), some (.int (zi bt)), some (.int ((zi k) + zi 1))]) (S' := []) (L2 := [some (.ref m), some (.int (zi a)), some (.int (zi b)), some (.int (zi ov)), some (.int (zi bt)), some (.int (zi (k + 1)))]) (S2 := []) rfl (by simp only [zi_add, zi_sub, zi_mul, zi_neg, zi_and1, zi_and7, zi_and15, zi_and31, zi_and255]) (by simp only [zi_add, zi_sub, zi_mul, zi_neg, zi_and1, zi_and7, zi_and15, zi_and31, zi_and255]) ?_
                    exact gz_wk (ihlp7 hq151 (k + 1) fq151_0 fq151_1 xq151_0 (by omega) sq151 (by omega) (by omega) (by omega) (by omega) (by omega) (by omega) (by omega) (by omega) (by omega) (by omega) s152 s153 efq151_0 efq151_1 yq151_0) (gLw.s (gLw.s (gLw.s (gLw.s (gLw.s (gLw.s gLw.z))))))
                  · refine gy_ifF rfl (by decide) (by decide) (by omega) hc156 ?_
                    refine gy_s 7 (pc' := 114) (L' := [some (.ref m), some (.int (zi a)), some (.int (zi b)), some (.int (zi ov)), some (.int (zi bt)), some (.int (zi k))]) (S' := [.int (zi bt), .int (zi b), .int (zi 1), .int ((zi 64) * (zi k)), .ref m]) (L2 := [some (.ref m), some (.int (zi a)), some (.int (zi b)), some (.int (zi ov)), some (.int (zi bt)), some (.int (zi k))]) (S2 := [.int (zi bt), .int (zi b), .int (zi 1), .int (zi (64 * k)), .ref m]) rfl (by simp only [zi_add, zi_sub, zi_mul, zi_neg, zi_and1, zi_and7, zi_and15, zi_and31, zi_and255]) (by simp only [zi_add, zi_sub, zi_mul, zi_neg, zi_and1, zi_and7, zi_and15, zi_and31, zi_and255]) ?_
                    refine gz_call rfl (by decide) rfl (by decide) (by decide) (gcal_of rfl rfl rfl (Nat.le_of_ble_eq_true rfl) (gJ.recv (G := gGG) sq151.1 tm rfl rfl)) (mm_putOthers _ sq151.1 m tm (64 * k) (by omega) 1 (by omega) b (by omega) bt (by omega) fq151_0 efq151_0 (by omega) fq151_1 efq151_1 (by omega) ic s152 (by omega) xq151_0 (by omega) (by omega) (by omega) uq yq151_0) (fun q157 _ wq157 => ?_)
                    obtain ⟨pq157, oq157, hq157⟩ := q157
                    obtain ⟨xq157, fq157_0, fq157_1, xq157_0, gq157, efq157_0, afq157_0, bfq157_0, efq157_1, afq157_1, bfq157_1, axq157_0, bxq157_0, uq157_0, uq157_1, uq157_2, uq157_3, uq157_4, yq157_0⟩ := wq157
                    refine ⟨_, gq157, ?_⟩
                    show gz gPP gGG gcn _ _ 117 [some (.ref m), some (.int (zi a)), some (.int (zi b)), some (.int (zi ov)), some (.int (zi bt)), some (.int (zi k))] [] hq157 _
                    have sq157 := gSs.tr sq151 xq157 (by decide)
                    have s158 := (xq157.2.2.2.2.2 m 67 (by rw [tm]; decide)).trans s152
                    have s159 := (xq157.2.2.2.2.2 m 64 (by rw [tm]; decide)).trans s153
                    have s160 := (xq157.2.2.2.2.2 m 52 (by rw [tm]; decide)).trans s154
                    have s161 := (xq157.2.2.2.2.2 m 63 (by rw [tm]; decide)).trans s155
                    refine gy_s 3 (pc' := 8) (L' := [some (.ref m), some (.int (zi a)), some (.int (zi b)), some (.int (zi ov)), some (.int (zi bt)), some (.int ((zi k) + zi 1))]) (S' := []) (L2 := [some (.ref m), some (.int (zi a)), some (.int (zi b)), some (.int (zi ov)), some (.int (zi bt)), some (.int (zi (k + 1)))]) (S2 := []) rfl (by simp only [zi_add, zi_sub, zi_mul, zi_neg, zi_and1, zi_and7, zi_and15, zi_and31, zi_and255]) (by simp only [zi_add, zi_sub, zi_mul, zi_neg, zi_and1, zi_and7, zi_and15, zi_and31, zi_and255]) ?_
                    exact gz_wk (ihlp7 hq157 (k + 1) fq157_0 fq157_1 xq157_0 (by omega) sq157 (by omega) (by omega) (by omega) (by omega) (by omega) (by omega) (by omega) (by omega) (by omega) (by omega) s158 s159 efq157_0 efq157_1 yq157_0) (gLw.s (gLw.s (gLw.s (gLw.s (gLw.s (gLw.s gLw.z))))))
  have hk0 : (0 : Int) * (35 * (b - a + 1) + 73) = 0 := Int.zero_mul _
  exact gz_wk (lp7 _ h1 0 w0 b0 so0 (Nat.lt_succ_self _) sh1 (by omega) (by omega) (by omega) (by omega) (by omega) (by omega) (by omega) (by omega) (by omega) (by omega) s5 s6 s3 s4 pr2) (gLw.s (gLw.s (gLw.s (gLw.s (gLw.s (gLw.s gLw.z))))))
