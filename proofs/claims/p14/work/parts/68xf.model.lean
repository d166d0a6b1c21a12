/-! ===== the encoder of the reference (by program) ===== -/
set_option maxRecDepth 20000 in
set_option maxHeartbeats 4000000 in
theorem mw_putBlocks (d : Nat) {ty : Nat → Nat} {h : gH} (hJ : gJ rT 1027 ty h) (m : Nat) (tm : ty m = 1) (a : Int) (ra : 0 ≤ a ∧ a ≤ 63) (b : Int) (rb : 0 ≤ b ∧ b ≤ 63) (ov : Int) (rov : 0 ≤ ov ∧ ov ≤ 4) (bt : Int) (rbt : 0 ≤ bt ∧ bt ≤ 3) (w0 : Int) (ew0 : h.2.2.2.2 m 59 = .int (zi w0)) (rw0 : 0 ≤ w0 ∧ w0 ≤ 60000) (u0 : Int) (eu0 : h.2.2.2.2 m 61 = .int (zi u0)) (ru0 : 0 ≤ u0 ∧ u0 ≤ 127) (b0 : Int) (eb0 : h.2.2.2.2 m 62 = .int (zi b0)) (rb0 : 0 ≤ b0 ∧ b0 ≤ 7) (ic : Int) (eic : h.2.2.2.2 m 67 = .int (zi ic)) (ric : 1 ≤ ic ∧ ic ≤ 1) (mb : Int) (emb : h.2.2.2.2 m 64 = .int (zi mb)) (rmb : 0 ≤ mb ∧ mb ≤ 16) (iv : Int) (eiv : h.2.2.2.2 m 52 = .int (zi iv)) (riv : 0 ≤ iv ∧ iv ≤ 100) (cf : Nat → Int) (sg : gWt) (ek0 : Nat → Int × Int) (ek1 : Nat → Int × Int) (pp0 : w0 = sg.1) (pp1 : u0 = sg.2.1) (pp2 : b0 = sg.2.2.1) (pp3 : 4 * w0 + b0 + 16 * (35 * (b - a + 1) + 73) ≤ 239900) (pp4 : a ≤ b) (pp5 : a = 0 → (b = 0 ∨ ov = 0)) (uq : gUq ty) (hyso : gSO ty sg h) (hyok : eeOk sg) (hyf33 : gRn (64 * mb).toNat ty 33 cf h) (hytk0 : gTk (a = 0 ∧ ov = 0) 0 ty ek0 h) (hytk1 : gTk (0 < b) 1 ty ek1 h) : gz gPP gGG gcn (d + 4) gt190 0 (gent [.ref m, .int (zi a), .int (zi b), .int (zi ov), .int (zi bt)] 6) [] h (fun q _ => gSs rT 1027 ty [1059, 1061, 1062, 1074, 1075, 32999, 42999] h q.2.2 ∧ ∃ w1 u1 b1 : Int, gfin gt190 q.1 q.2.1 = some none ∧ q.2.2.2.2.2.2 m 59 = .int (zi w1) ∧ 0 ≤ w1 ∧ w1 ≤ 60000 ∧ q.2.2.2.2.2.2 m 61 = .int (zi u1) ∧ 0 ≤ u1 ∧ u1 ≤ 127 ∧ q.2.2.2.2.2.2 m 62 = .int (zi b1) ∧ 0 ≤ b1 ∧ b1 ≤ 7 ∧ (w1 = ((ewK ek0 ek1 iv a b ov bt cf sg (mb).toNat).2).1) ∧ (u1 = ((ewK ek0 ek1 iv a b ov bt cf sg (mb).toNat).2).2.1) ∧ (b1 = ((ewK ek0 ek1 iv a b ov bt cf sg (mb).toNat).2).2.2.1) ∧ (4 * w1 + b1 ≤ 4 * w0 + b0 + 16 * (35 * (b - a + 1) + 73)) ∧ (w0 ≤ w1) ∧ (gSO ty ((ewK ek0 ek1 iv a b ov bt cf sg (mb).toNat).2) q.2.2) ∧ (eeOk ((ewK ek0 ek1 iv a b ov bt cf sg (mb).toNat).2))) := by
  have hS : gSs rT 1027 ty [1059, 1061, 1062, 1074, 1075, 32999, 42999] h h := gSs.rf hJ
  refine gz_s 2 (pc' := 2) (L' := [some (.ref m), some (.int (zi a)), some (.int (zi b)), some (.int (zi ov)), some (.int (zi bt)), none]) (S' := [.int (zi 0), .ref m]) rfl ?_
  refine gs_put rfl (by decide) rfl hS tm rfl rfl rfl rfl (Or.inl rfl) (by decide) (by omega) (by omega) (fun h1 sh1 eh1 fh1 => ?_)
  have pr2 := gSO.pt fh1 tm (by decide) hyso
  have pr3 := gRn.pt fh1 tm (by decide) hyf33
  have pr4 := gTk.pt fh1 tm (by decide) (by decide) hytk0
  have pr5 := gTk.pt fh1 tm (by decide) (by decide) hytk1
  have s6 := (fh1 m 59 (fun q => absurd q.2 (by decide))).trans ew0
  have s7 := (fh1 m 61 (fun q => absurd q.2 (by decide))).trans eu0
  have s8 := (fh1 m 62 (fun q => absurd q.2 (by decide))).trans eb0
  have s9 := (fh1 m 67 (fun q => absurd q.2 (by decide))).trans eic
  have s10 := (fh1 m 64 (fun q => absurd q.2 (by decide))).trans emb
  have s11 := (fh1 m 52 (fun q => absurd q.2 (by decide))).trans eiv
  refine gz_s 2 (pc' := 8) (L' := [some (.ref m), some (.int (zi a)), some (.int (zi b)), some (.int (zi ov)), some (.int (zi bt)), some (.int (zi 0))]) (S' := []) rfl ?_
  have hk13 : (ewK ek0 ek1 iv a b ov bt cf sg (0 : Int).toNat).2 = sg := rfl
  have hk13_1 : ((ewK ek0 ek1 iv a b ov bt cf sg (0 : Int).toNat).2).1 = (sg).1 := by rw [hk13]
  have hk13_21 : ((ewK ek0 ek1 iv a b ov bt cf sg (0 : Int).toNat).2).2.1 = (sg).2.1 := by rw [hk13]
  have hk13_221 : ((ewK ek0 ek1 iv a b ov bt cf sg (0 : Int).toNat).2).2.2.1 = (sg).2.2.1 := by rw [hk13]
  have hso14 : gSO ty ((ewK ek0 ek1 iv a b ov bt cf sg (0 : Int).toNat).2) h1 := by rw [hk13]; exact pr2
  have hok15 : eeOk ((ewK ek0 ek1 iv a b ov bt cf sg (0 : Int).toNat).2) := by rw [hk13]; exact hyok
  have hok15c := hok15.cur
  have lp12 : ∀ (fu : Nat) (h16 : gH) (k : Int) (wv : Int) (uv : Int) (bv : Int) (lv : Int), (17 - k).toNat < fu → gSs rT 1027 ty [1059, 1061, 1062, 1074, 1075, 32999, 42999] h h16 → (0 ≤ k ∧ k ≤ 16) → (0 ≤ wv ∧ wv ≤ 60000) → (0 ≤ uv ∧ uv ≤ 127) → (0 ≤ bv ∧ bv ≤ 7) → ((-2048) ≤ lv ∧ lv ≤ 2048) → (k ≤ mb) → (lv = (ewK ek0 ek1 iv a b ov bt cf sg (k).toNat).1) → (wv = ((ewK ek0 ek1 iv a b ov bt cf sg (k).toNat).2).1) → (uv = ((ewK ek0 ek1 iv a b ov bt cf sg (k).toNat).2).2.1) → (bv = ((ewK ek0 ek1 iv a b ov bt cf sg (k).toNat).2).2.2.1) → (4 * wv + bv ≤ 4 * w0 + b0 + k * (35 * (b - a + 1) + 73)) → (w0 ≤ wv) → h16.2.2.2.2 m 67 = .int (zi ic) → h16.2.2.2.2 m 64 = .int (zi mb) → h16.2.2.2.2 m 52 = .int (zi iv) → h16.2.2.2.2 m 59 = .int (zi wv) → h16.2.2.2.2 m 61 = .int (zi uv) → h16.2.2.2.2 m 62 = .int (zi bv) → h16.2.2.2.2 m 74 = .int (zi lv) → gRn (64 * mb).toNat ty 33 cf h16 → gTk (a = 0 ∧ ov = 0) 0 ty ek0 h16 → gTk (0 < b) 1 ty ek1 h16 → gSO ty ((ewK ek0 ek1 iv a b ov bt cf sg (k).toNat).2) h16 → eeOk ((ewK ek0 ek1 iv a b ov bt cf sg (k).toNat).2) → gz gPP gGG gcn (d + 4) gt190 8 [some (.ref m), some (.int (zi a)), some (.int (zi b)), some (.int (zi ov)), some (.int (zi bt)), some (.int (zi k))] [] h16 (fun q _ => gSs rT 1027 ty [1059, 1061, 1062, 1074, 1075, 32999, 42999] h q.2.2 ∧ ∃ w1 u1 b1 : Int, gfin gt190 q.1 q.2.1 = some none ∧ q.2.2.2.2.2.2 m 59 = .int (zi w1) ∧ 0 ≤ w1 ∧ w1 ≤ 60000 ∧ q.2.2.2.2.2.2 m 61 = .int (zi u1) ∧ 0 ≤ u1 ∧ u1 ≤ 127 ∧ q.2.2.2.2.2.2 m 62 = .int (zi b1) ∧ 0 ≤ b1 ∧ b1 ≤ 7 ∧ (w1 = ((ewK ek0 ek1 iv a b ov bt cf sg (mb).toNat).2).1) ∧ (u1 = ((ewK ek0 ek1 iv a b ov bt cf sg (mb).toNat).2).2.1) ∧ (b1 = ((ewK ek0 ek1 iv a b ov bt cf sg (mb).toNat).2).2.2.1) ∧ (4 * w1 + b1 ≤ 4 * w0 + b0 + 16 * (35 * (b - a + 1) + 73)) ∧ (w0 ≤ w1) ∧ (gSO ty ((ewK ek0 ek1 iv a b ov bt cf sg (mb).toNat).2) q.2.2) ∧ (eeOk ((ewK ek0 ek1 iv a b ov bt cf sg (mb).toNat).2))) := by
    intro fu
    induction fu with
    | zero => intro h16 k wv uv bv lv hm; exact absurd hm (Nat.not_lt_zero _)
    | succ fu ihlp12 =>
      intro h16 k wv uv bv lv lp12m sh16 lp12f0 lp12f1 lp12f2 lp12f3 lp12f4 lp12f5 lp12f6 lp12f7 lp12f8 lp12f9 lp12f10 lp12f11 lp12k0 lp12k1 lp12k2 lp12k3 lp12k4 lp12k5 lp12k6 lp12k7 lp12k8 lp12k9 lp12k10 lp12k11
      have hkT : (k + 1) * (35 * (b - a + 1) + 73) = k * (35 * (b - a + 1) + 73) + (35 * (b - a + 1) + 73) := by rw [Int.add_mul, Int.one_mul]
      have hkB : k * (35 * (b - a + 1) + 73) ≤ 16 * (35 * (b - a + 1) + 73) := Int.mul_le_mul_of_nonneg_right (by omega) (by omega)
      have hkC : k < mb → (k + 1) * (35 * (b - a + 1) + 73) ≤ 16 * (35 * (b - a + 1) + 73) := fun _ => Int.mul_le_mul_of_nonneg_right (by omega) (by omega)
      refine gz_s 2 (pc' := 11) (L' := [some (.ref m), some (.int (zi a)), some (.int (zi b)), some (.int (zi ov)), some (.int (zi bt)), some (.int (zi k))]) (S' := [.ref m, .int (zi k)]) rfl ?_
      refine gs_gtk rfl (by decide) rfl sh16.1 tm rfl rfl lp12k1 ?_
      by_cases hc17 : (mb : Int) ≤ k
      · refine gy_icT (pc' := 167) rfl (by decide) (by decide) (by omega) (by omega) hc17 ?_
        have hk18 : (ewK ek0 ek1 iv a b ov bt cf sg (mb).toNat).2 = (ewK ek0 ek1 iv a b ov bt cf sg (k).toNat).2 := by rw [show mb = k by omega]
        have hk18_1 : ((ewK ek0 ek1 iv a b ov bt cf sg (mb).toNat).2).1 = ((ewK ek0 ek1 iv a b ov bt cf sg (k).toNat).2).1 := by rw [hk18]
        have hk18_21 : ((ewK ek0 ek1 iv a b ov bt cf sg (mb).toNat).2).2.1 = ((ewK ek0 ek1 iv a b ov bt cf sg (k).toNat).2).2.1 := by rw [hk18]
        have hk18_221 : ((ewK ek0 ek1 iv a b ov bt cf sg (mb).toNat).2).2.2.1 = ((ewK ek0 ek1 iv a b ov bt cf sg (k).toNat).2).2.2.1 := by rw [hk18]
        have hso19 : gSO ty ((ewK ek0 ek1 iv a b ov bt cf sg (mb).toNat).2) h16 := by rw [hk18]; exact lp12k10
        have hok20 : eeOk ((ewK ek0 ek1 iv a b ov bt cf sg (mb).toNat).2) := by rw [hk18]; exact lp12k11
        have hok20c := hok20.cur
        exact gz_end (I := .return_) (len := 1) rfl (Or.inl rfl) ⟨sh16, wv, uv, bv, rfl, lp12k3, (by omega), (by omega), lp12k4, (by omega), (by omega), lp12k5, (by omega), (by omega), (by omega), (by omega), (by omega), (by omega), (by omega), hso19, hok20⟩
      · refine gy_icF rfl (by decide) (by decide) (by omega) (by omega) hc17 ?_
        have hi0 : (64 * k).toNat = 64 * (k).toNat := by omega
        have hi1 : ((64 * k) + a).toNat = 64 * (k).toNat + a.toNat := by omega
        have hi2 : ((64 * k) + 1).toNat = 64 * (k).toNat + (1 : Int).toNat := by omega
        have hbn : (k + 1).toNat = (k).toNat + 1 := by omega
        refine gz_s 1 (pc' := 18) (L' := [some (.ref m), some (.int (zi a)), some (.int (zi b)), some (.int (zi ov)), some (.int (zi bt)), some (.int (zi k))]) (S' := [.ref m]) rfl ?_
        refine gs_gtk rfl (by decide) rfl sh16.1 tm rfl rfl lp12k2 ?_
        by_cases hc21 : (iv : Int) ≤ 0
        · refine gy_ifT (pc' := 75) rfl (by decide) (by decide) (by omega) hc21 ?_
          refine gz_s 1 (pc' := 76) (L' := [some (.ref m), some (.int (zi a)), some (.int (zi b)), some (.int (zi ov)), some (.int (zi bt)), some (.int (zi k))]) (S' := [.int (zi a)]) rfl ?_
          by_cases hc22 : ¬ (a : Int) = 0
          · refine gy_ifT (pc' := 96) rfl (by decide) (by decide) (by omega) hc22 ?_
            refine gz_s 1 (pc' := 97) (L' := [some (.ref m), some (.int (zi a)), some (.int (zi b)), some (.int (zi ov)), some (.int (zi bt)), some (.int (zi k))]) (S' := [.int (zi a)]) rfl ?_
            refine gy_ifT (pc' := 120) rfl (by decide) (by decide) (by omega) (by first | (simp [zc]; done) | (simp only [zc]; omega)) ?_
            refine gz_s 1 (pc' := 121) (L' := [some (.ref m), some (.int (zi a)), some (.int (zi b)), some (.int (zi ov)), some (.int (zi bt)), some (.int (zi k))]) (S' := [.int (zi a)]) rfl ?_
            refine gy_ifF rfl (by decide) (by decide) (by omega) (by first | (simp [zc]; done) | (simp only [zc]; omega)) ?_
            refine gz_s 1 (pc' := 125) (L' := [some (.ref m), some (.int (zi a)), some (.int (zi b)), some (.int (zi ov)), some (.int (zi bt)), some (.int (zi k))]) (S' := [.int (zi ov)]) rfl ?_
            by_cases hc23 : ¬ (ov : Int) = 0
            · refine gy_ifT (pc' := 144) rfl (by decide) (by decide) (by omega) hc23 ?_
              refine gz_s 1 (pc' := 145) (L' := [some (.ref m), some (.int (zi a)), some (.int (zi b)), some (.int (zi ov)), some (.int (zi bt)), some (.int (zi k))]) (S' := [.int (zi a)]) rfl ?_
              refine gy_ifF rfl (by decide) (by decide) (by omega) (by first | (simp [zc]; done) | (simp only [zc]; omega)) ?_
              have htk24 := gTk.imp (Q := True) (fun _ => by omega) lp12k9
              have hKF : (if 1 ≤ a then a else 1) = a := if_pos (by omega)
              refine gy_s 7 (pc' := 158) (L' := [some (.ref m), some (.int (zi a)), some (.int (zi b)), some (.int (zi ov)), some (.int (zi bt)), some (.int (zi k))]) (S' := [.int (zi bt), .int (zi b), .int (zi a), .int ((zi 64) * (zi k)), .ref m]) (L2 := [some (.ref m), some (.int (zi a)), some (.int (zi b)), some (.int (zi ov)), some (.int (zi bt)), some (.int (zi k))]) (S2 := [.int (zi bt), .int (zi b), .int (zi a), .int (zi (64 * k)), .ref m]) rfl (by simp only [zi_add, zi_sub, zi_mul, zi_neg, zi_and1, zi_and7, zi_and15, zi_and31, zi_and255]) (by simp only [zi_add, zi_sub, zi_mul, zi_neg, zi_and1, zi_and7, zi_and15, zi_and31, zi_and255]) ?_
              refine gz_call rfl (by decide) rfl (by decide) (by decide) (gcal_of rfl rfl rfl (Nat.le_of_ble_eq_true rfl) (gJ.recv (G := gGG) sh16.1 tm rfl rfl)) (mw_putMore _ sh16.1 m tm (64 * k) (by omega) a (by omega) b (by omega) bt (by omega) wv lp12k3 (by omega) uv lp12k4 (by omega) bv lp12k5 (by omega) ic lp12k0 (by omega) mb lp12k1 (by omega) cf ((ewK ek0 ek1 iv a b ov bt cf sg (k).toNat).2) ek1 (by omega) (by omega) (by omega) (by omega) (by omega) (by omega) uq lp12k10 lp12k11 htk24 lp12k7) (fun q25 _ wq25 => ?_)
              obtain ⟨pq25, oq25, hq25⟩ := q25
              obtain ⟨xq25, fq25_0, fq25_1, fq25_2, gq25, efq25_0, afq25_0, bfq25_0, efq25_1, afq25_1, bfq25_1, efq25_2, afq25_2, bfq25_2, uq25_0, uq25_1, uq25_2, uq25_3, uq25_4, yq25_0, yq25_1⟩ := wq25
              refine ⟨_, gq25, ?_⟩
              show gz gPP gGG gcn _ _ 161 [some (.ref m), some (.int (zi a)), some (.int (zi b)), some (.int (zi ov)), some (.int (zi bt)), some (.int (zi k))] [] hq25 _
              have sq25 := gSs.tr sh16 xq25 (by decide)
              have s26 := (xq25.2.2.2.2.2 m 67 (by rw [tm]; decide)).trans lp12k0
              have s27 := (xq25.2.2.2.2.2 m 64 (by rw [tm]; decide)).trans lp12k1
              have s28 := (xq25.2.2.2.2.2 m 52 (by rw [tm]; decide)).trans lp12k2
              have s29 := (xq25.2.2.2.2.2 m 74 (by rw [tm]; decide)).trans lp12k6
              have pr30 := gRn.fr xq25.2 (by decide) lp12k7
              have pr31 := gTk.fr xq25.2 (by decide) (by decide) lp12k8
              have pr32 := gTk.fr xq25.2 (by decide) (by decide) htk24
              have htk33 := gTk.imp (Q := 0 < b) (fun _ => trivial) pr32
              have hK : ewK ek0 ek1 iv a b ov bt cf sg (k + 1).toNat = ((lv, (ewK ek0 ek1 iv a b ov bt cf sg (k).toNat).2).1, eeRz (ewS ek1) eeN bt cf (64 * k) a b ((ewK ek0 ek1 iv a b ov bt cf sg (k).toNat).2)) := by
                rw [hbn]
                exact ewK_s (P := (lv, (ewK ek0 ek1 iv a b ov bt cf sg (k).toNat).2)) (F := (lv, (ewK ek0 ek1 iv a b ov bt cf sg (k).toNat).2)) ((ewI_n (by omega) (by intro w; rcases w with ⟨w1, w2, w3⟩; first | omega | exact absurd w3 (by assumption))).trans (by rw [show lv = (ewK ek0 ek1 iv a b ov bt cf sg (k).toNat).1 by omega])) (ite2_2 (by omega) rfl) (ite3_1 ⟨by omega, by omega⟩ (by unfold eeRz; rw [hi1]))
              have hK1 : (ewK ek0 ek1 iv a b ov bt cf sg (k + 1).toNat).1 = (lv, (ewK ek0 ek1 iv a b ov bt cf sg (k).toNat).2).1 := by rw [hK]
              have hK2 : (lv, (ewK ek0 ek1 iv a b ov bt cf sg (k).toNat).2).1 = lv := rfl
              have hk34 : (ewK ek0 ek1 iv a b ov bt cf sg (k + 1).toNat).2 = eeRz (ewS ek1) eeN bt cf (64 * k) a b ((ewK ek0 ek1 iv a b ov bt cf sg (k).toNat).2) := by rw [hK]
              have hk34_1 : ((ewK ek0 ek1 iv a b ov bt cf sg (k + 1).toNat).2).1 = (eeRz (ewS ek1) eeN bt cf (64 * k) a b ((ewK ek0 ek1 iv a b ov bt cf sg (k).toNat).2)).1 := by rw [hk34]
              have hk34_21 : ((ewK ek0 ek1 iv a b ov bt cf sg (k + 1).toNat).2).2.1 = (eeRz (ewS ek1) eeN bt cf (64 * k) a b ((ewK ek0 ek1 iv a b ov bt cf sg (k).toNat).2)).2.1 := by rw [hk34]
              have hk34_221 : ((ewK ek0 ek1 iv a b ov bt cf sg (k + 1).toNat).2).2.2.1 = (eeRz (ewS ek1) eeN bt cf (64 * k) a b ((ewK ek0 ek1 iv a b ov bt cf sg (k).toNat).2)).2.2.1 := by rw [hk34]
              have hso35 : gSO ty ((ewK ek0 ek1 iv a b ov bt cf sg (k + 1).toNat).2) hq25 := by rw [hk34]; exact yq25_0
              have hok36 : eeOk ((ewK ek0 ek1 iv a b ov bt cf sg (k + 1).toNat).2) := by rw [hk34]; exact yq25_1
              have hok36c := hok36.cur
              refine gy_s 2 (pc' := 8) (L' := [some (.ref m), some (.int (zi a)), some (.int (zi b)), some (.int (zi ov)), some (.int (zi bt)), some (.int ((zi k) + zi 1))]) (S' := []) (L2 := [some (.ref m), some (.int (zi a)), some (.int (zi b)), some (.int (zi ov)), some (.int (zi bt)), some (.int (zi (k + 1)))]) (S2 := []) rfl (by simp only [zi_add, zi_sub, zi_mul, zi_neg, zi_and1, zi_and7, zi_and15, zi_and31, zi_and255]) (by simp only [zi_add, zi_sub, zi_mul, zi_neg, zi_and1, zi_and7, zi_and15, zi_and31, zi_and255]) ?_
              exact gz_wk (ihlp12 hq25 (k + 1) fq25_0 fq25_1 fq25_2 lv (by omega) sq25 (by omega) (by omega) (by omega) (by omega) (by omega) (by omega) (by omega) (by omega) (by omega) (by omega) (by omega) (by omega) s26 s27 s28 efq25_0 efq25_1 efq25_2 s29 pr30 pr31 htk33 hso35 hok36) (gLw.s (gLw.s (gLw.s (gLw.s (gLw.s (gLw.s gLw.z))))))
            · refine gy_ifF rfl (by decide) (by decide) (by omega) hc23 ?_
              have htk37 := gTk.imp (Q := True) (fun _ => by omega) lp12k9
              have hKF : (if 1 ≤ a then a else 1) = a := if_pos (by omega)
              refine gy_s 7 (pc' := 138) (L' := [some (.ref m), some (.int (zi a)), some (.int (zi b)), some (.int (zi ov)), some (.int (zi bt)), some (.int (zi k))]) (S' := [.int (zi bt), .int (zi b), .int (zi a), .int ((zi 64) * (zi k)), .ref m]) (L2 := [some (.ref m), some (.int (zi a)), some (.int (zi b)), some (.int (zi ov)), some (.int (zi bt)), some (.int (zi k))]) (S2 := [.int (zi bt), .int (zi b), .int (zi a), .int (zi (64 * k)), .ref m]) rfl (by simp only [zi_add, zi_sub, zi_mul, zi_neg, zi_and1, zi_and7, zi_and15, zi_and31, zi_and255]) (by simp only [zi_add, zi_sub, zi_mul, zi_neg, zi_and1, zi_and7, zi_and15, zi_and31, zi_and255]) ?_
              refine gz_call rfl (by decide) rfl (by decide) (by decide) (gcal_of rfl rfl rfl (Nat.le_of_ble_eq_true rfl) (gJ.recv (G := gGG) sh16.1 tm rfl rfl)) (mw_putOthers _ sh16.1 m tm (64 * k) (by omega) a (by omega) b (by omega) bt (by omega) wv lp12k3 (by omega) uv lp12k4 (by omega) bv lp12k5 (by omega) ic lp12k0 (by omega) mb lp12k1 (by omega) cf ((ewK ek0 ek1 iv a b ov bt cf sg (k).toNat).2) ek1 (by omega) (by omega) (by omega) (by omega) (by omega) (by omega) uq lp12k10 lp12k11 htk37 lp12k7) (fun q38 _ wq38 => ?_)
              obtain ⟨pq38, oq38, hq38⟩ := q38
              obtain ⟨xq38, fq38_0, fq38_1, fq38_2, gq38, efq38_0, afq38_0, bfq38_0, efq38_1, afq38_1, bfq38_1, efq38_2, afq38_2, bfq38_2, uq38_0, uq38_1, uq38_2, uq38_3, uq38_4, yq38_0, yq38_1⟩ := wq38
              refine ⟨_, gq38, ?_⟩
              show gz gPP gGG gcn _ _ 141 [some (.ref m), some (.int (zi a)), some (.int (zi b)), some (.int (zi ov)), some (.int (zi bt)), some (.int (zi k))] [] hq38 _
              have sq38 := gSs.tr sh16 xq38 (by decide)
              have s39 := (xq38.2.2.2.2.2 m 67 (by rw [tm]; decide)).trans lp12k0
              have s40 := (xq38.2.2.2.2.2 m 64 (by rw [tm]; decide)).trans lp12k1
              have s41 := (xq38.2.2.2.2.2 m 52 (by rw [tm]; decide)).trans lp12k2
              have s42 := (xq38.2.2.2.2.2 m 74 (by rw [tm]; decide)).trans lp12k6
              have pr43 := gRn.fr xq38.2 (by decide) lp12k7
              have pr44 := gTk.fr xq38.2 (by decide) (by decide) lp12k8
              have pr45 := gTk.fr xq38.2 (by decide) (by decide) htk37
              refine gz_s 1 (pc' := 161) (L' := [some (.ref m), some (.int (zi a)), some (.int (zi b)), some (.int (zi ov)), some (.int (zi bt)), some (.int (zi k))]) (S' := []) rfl ?_
              have htk46 := gTk.imp (Q := 0 < b) (fun _ => trivial) pr45
              have hK : ewK ek0 ek1 iv a b ov bt cf sg (k + 1).toNat = ((lv, (ewK ek0 ek1 iv a b ov bt cf sg (k).toNat).2).1, eeOt (ewS ek1) eeN bt cf ((64 * k) + a).toNat (b - a + 1).toNat ((ewK ek0 ek1 iv a b ov bt cf sg (k).toNat).2)) := by
                rw [hbn]
                exact ewK_s (P := (lv, (ewK ek0 ek1 iv a b ov bt cf sg (k).toNat).2)) (F := (lv, (ewK ek0 ek1 iv a b ov bt cf sg (k).toNat).2)) ((ewI_n (by omega) (by intro w; rcases w with ⟨w1, w2, w3⟩; first | omega | exact absurd w3 (by assumption))).trans (by rw [show lv = (ewK ek0 ek1 iv a b ov bt cf sg (k).toNat).1 by omega])) (ite2_2 (by omega) rfl) (ite3_2 (by omega) (by omega) (by rw [hKF, hi1]))
              have hK1 : (ewK ek0 ek1 iv a b ov bt cf sg (k + 1).toNat).1 = (lv, (ewK ek0 ek1 iv a b ov bt cf sg (k).toNat).2).1 := by rw [hK]
              have hK2 : (lv, (ewK ek0 ek1 iv a b ov bt cf sg (k).toNat).2).1 = lv := rfl
              have hk47 : (ewK ek0 ek1 iv a b ov bt cf sg (k + 1).toNat).2 = eeOt (ewS ek1) eeN bt cf ((64 * k) + a).toNat (b - a + 1).toNat ((ewK ek0 ek1 iv a b ov bt cf sg (k).toNat).2) := by rw [hK]
              have hk47_1 : ((ewK ek0 ek1 iv a b ov bt cf sg (k + 1).toNat).2).1 = (eeOt (ewS ek1) eeN bt cf ((64 * k) + a).toNat (b - a + 1).toNat ((ewK ek0 ek1 iv a b ov bt cf sg (k).toNat).2)).1 := by rw [hk47]
              have hk47_21 : ((ewK ek0 ek1 iv a b ov bt cf sg (k + 1).toNat).2).2.1 = (eeOt (ewS ek1) eeN bt cf ((64 * k) + a).toNat (b - a + 1).toNat ((ewK ek0 ek1 iv a b ov bt cf sg (k).toNat).2)).2.1 := by rw [hk47]
              have hk47_221 : ((ewK ek0 ek1 iv a b ov bt cf sg (k + 1).toNat).2).2.2.1 = (eeOt (ewS ek1) eeN bt cf ((64 * k) + a).toNat (b - a + 1).toNat ((ewK ek0 ek1 iv a b ov bt cf sg (k).toNat).2)).2.2.1 := by rw [hk47]
              have hso48 : gSO ty ((ewK ek0 ek1 iv a b ov bt cf sg (k + 1).toNat).2) hq38 := by rw [hk47]; exact yq38_0
              have hok49 : eeOk ((ewK ek0 ek1 iv a b ov bt cf sg (k + 1).toNat).2) := by rw [hk47]; exact yq38_1
              have hok49c := hok49.cur
              refine gy_s 2 (pc' := 8) (L' := [some (.ref m), some (.int (zi a)), some (.int (zi b)), some (.int (zi ov)), some (.int (zi bt)), some (.int ((zi k) + zi 1))]) (S' := []) (L2 := [some (.ref m), some (.int (zi a)), some (.int (zi b)), some (.int (zi ov)), some (.int (zi bt)), some (.int (zi (k + 1)))]) (S2 := []) rfl (by simp only [zi_add, zi_sub, zi_mul, zi_neg, zi_and1, zi_and7, zi_and15, zi_and31, zi_and255]) (by simp only [zi_add, zi_sub, zi_mul, zi_neg, zi_and1, zi_and7, zi_and15, zi_and31, zi_and255]) ?_
              exact gz_wk (ihlp12 hq38 (k + 1) fq38_0 fq38_1 fq38_2 lv (by omega) sq38 (by omega) (by omega) (by omega) (by omega) (by omega) (by omega) (by omega) (by omega) (by omega) (by omega) (by omega) (by omega) s39 s40 s41 efq38_0 efq38_1 efq38_2 s42 pr43 pr44 htk46 hso48 hok49) (gLw.s (gLw.s (gLw.s (gLw.s (gLw.s (gLw.s gLw.z))))))
          · refine gy_ifF rfl (by decide) (by decide) (by omega) hc22 ?_
            have htk50 := gTk.imp (Q := ov = 0) (fun w => ⟨by omega, w⟩) lp12k8
            refine gz_s 2 (pc' := 81) (L' := [some (.ref m), some (.int (zi a)), some (.int (zi b)), some (.int (zi ov)), some (.int (zi bt)), some (.int (zi k))]) (S' := [.ref m, .ref m]) rfl ?_
            refine gs_gtr rfl (by decide) rfl sh16.1 tm rfl rfl rfl (fun c51 ec51 tc51 => ?_)
            refine gy_s 3 (pc' := 89) (L' := [some (.ref m), some (.int (zi a)), some (.int (zi b)), some (.int (zi ov)), some (.int (zi bt)), some (.int (zi k))]) (S' := [.int ((zi 64) * (zi k)), .ref c51, .ref m]) (L2 := [some (.ref m), some (.int (zi a)), some (.int (zi b)), some (.int (zi ov)), some (.int (zi bt)), some (.int (zi k))]) (S2 := [.int (zi (64 * k)), .ref c51, .ref m]) rfl (by simp only [zi_add, zi_sub, zi_mul, zi_neg, zi_and1, zi_and7, zi_and15, zi_and31, zi_and255]) (by simp only [zi_add, zi_sub, zi_mul, zi_neg, zi_and1, zi_and7, zi_and15, zi_and31, zi_and255]) ?_
            have hl52 : 1024 ≤ h16.2.2.2.1 c51 ∧ h16.2.2.2.1 c51 ≤ 1024 := gJ.rowl (G := gGG) sh16.1 tc51 rfl
            refine gs_ald rfl (by decide) sh16.1 tc51 rfl rfl rfl (by decide) (fun _ => rfl) (by omega) (by omega) (fun z53 ez53 az53 bz53 => ?_)
            have hf54 := gRn.at (i := 64 * k) (z := z53) lp12k7 tc51 ez53 (by omega) (by omega) (by omega)
            have hcv : cf (64 * (k).toNat) = z53 := by rw [← hi0]; exact hf54
            refine gz_s 2 (pc' := 93) (L' := [some (.ref m), some (.int (zi a)), some (.int (zi b)), some (.int (zi ov)), some (.int (zi bt)), some (.int (zi k))]) (S' := [.int (zi bt), .int (zi ov), .int (zi z53), .ref m]) rfl ?_
            refine gz_call rfl (by decide) rfl (by decide) (by decide) (gcal_of rfl rfl rfl (Nat.le_of_ble_eq_true rfl) (gJ.recv (G := gGG) sh16.1 tm rfl rfl)) (mw_putFirst _ sh16.1 m tm z53 (by omega) ov (by omega) bt (by omega) wv lp12k3 (by omega) uv lp12k4 (by omega) bv lp12k5 (by omega) ic lp12k0 (by omega) lv lp12k6 (by omega) ((ewK ek0 ek1 iv a b ov bt cf sg (k).toNat).2) ek0 (by omega) (by omega) (by omega) (by omega) uq lp12k10 lp12k11 htk50) (fun q55 _ wq55 => ?_)
            obtain ⟨pq55, oq55, hq55⟩ := q55
            obtain ⟨xq55, fq55_0, fq55_1, fq55_2, fq55_3, gq55, efq55_0, afq55_0, bfq55_0, efq55_1, afq55_1, bfq55_1, efq55_2, afq55_2, bfq55_2, efq55_3, afq55_3, bfq55_3, uq55_0, uq55_1, uq55_2, uq55_3, uq55_4, uq55_5, yq55_0, yq55_1⟩ := wq55
            refine ⟨_, gq55, ?_⟩
            show gz gPP gGG gcn _ _ 96 [some (.ref m), some (.int (zi a)), some (.int (zi b)), some (.int (zi ov)), some (.int (zi bt)), some (.int (zi k))] [] hq55 _
            have sq55 := gSs.tr sh16 xq55 (by decide)
            have s56 := (xq55.2.2.2.2.2 m 67 (by rw [tm]; decide)).trans lp12k0
            have s57 := (xq55.2.2.2.2.2 m 64 (by rw [tm]; decide)).trans lp12k1
            have s58 := (xq55.2.2.2.2.2 m 52 (by rw [tm]; decide)).trans lp12k2
            have s59 := (xq55.2.2.2.2.2 m 63 (by rw [tm]; decide)).trans ec51
            have pr60 := gRn.fr xq55.2 (by decide) lp12k7
            have pr61 := gTk.fr xq55.2 (by decide) (by decide) htk50
            have pr62 := gTk.fr xq55.2 (by decide) (by decide) lp12k9
            have htk63 := gTk.imp (Q := a = 0 ∧ ov = 0) (fun w => w.2) pr61
            refine gz_s 1 (pc' := 97) (L' := [some (.ref m), some (.int (zi a)), some (.int (zi b)), some (.int (zi ov)), some (.int (zi bt)), some (.int (zi k))]) (S' := [.int (zi a)]) rfl ?_
            refine gy_ifF rfl (by decide) (by decide) (by omega) (by first | (simp [zc]; done) | (simp only [zc]; omega)) ?_
            refine gz_s 1 (pc' := 101) (L' := [some (.ref m), some (.int (zi a)), some (.int (zi b)), some (.int (zi ov)), some (.int (zi bt)), some (.int (zi k))]) (S' := [.int (zi b)]) rfl ?_
            by_cases hc64 : (b : Int) ≤ 0
            · refine gy_ifT (pc' := 120) rfl (by decide) (by decide) (by omega) hc64 ?_
              refine gz_s 1 (pc' := 121) (L' := [some (.ref m), some (.int (zi a)), some (.int (zi b)), some (.int (zi ov)), some (.int (zi bt)), some (.int (zi k))]) (S' := [.int (zi a)]) rfl ?_
              refine gy_ifT (pc' := 144) rfl (by decide) (by decide) (by omega) (by first | (simp [zc]; done) | (simp only [zc]; omega)) ?_
              refine gz_s 1 (pc' := 145) (L' := [some (.ref m), some (.int (zi a)), some (.int (zi b)), some (.int (zi ov)), some (.int (zi bt)), some (.int (zi k))]) (S' := [.int (zi a)]) rfl ?_
              refine gy_ifT (pc' := 161) rfl (by decide) (by decide) (by omega) (by first | (simp [zc]; done) | (simp only [zc]; omega)) ?_
              have hK : ewK ek0 ek1 iv a b ov bt cf sg (k + 1).toNat = ((eeFi (ewS ek0) eeN bt ov z53 lv ((ewK ek0 ek1 iv a b ov bt cf sg (k).toNat).2)).1, (eeFi (ewS ek0) eeN bt ov z53 lv ((ewK ek0 ek1 iv a b ov bt cf sg (k).toNat).2)).2) := by
                rw [hbn]
                exact ewK_s (P := (lv, (ewK ek0 ek1 iv a b ov bt cf sg (k).toNat).2)) (F := (eeFi (ewS ek0) eeN bt ov z53 lv ((ewK ek0 ek1 iv a b ov bt cf sg (k).toNat).2))) ((ewI_n (by omega) (by intro w; rcases w with ⟨w1, w2, w3⟩; first | omega | exact absurd w3 (by assumption))).trans (by rw [show lv = (ewK ek0 ek1 iv a b ov bt cf sg (k).toNat).1 by omega])) (ite2_1 (by omega) (by rw [hcv])) (ite3_3 (by omega) (by omega) rfl)
              have hK1 : (ewK ek0 ek1 iv a b ov bt cf sg (k + 1).toNat).1 = (eeFi (ewS ek0) eeN bt ov z53 lv ((ewK ek0 ek1 iv a b ov bt cf sg (k).toNat).2)).1 := by rw [hK]
              have hk65 : (ewK ek0 ek1 iv a b ov bt cf sg (k + 1).toNat).2 = (eeFi (ewS ek0) eeN bt ov z53 lv ((ewK ek0 ek1 iv a b ov bt cf sg (k).toNat).2)).2 := by rw [hK]
              have hk65_1 : ((ewK ek0 ek1 iv a b ov bt cf sg (k + 1).toNat).2).1 = ((eeFi (ewS ek0) eeN bt ov z53 lv ((ewK ek0 ek1 iv a b ov bt cf sg (k).toNat).2)).2).1 := by rw [hk65]
              have hk65_21 : ((ewK ek0 ek1 iv a b ov bt cf sg (k + 1).toNat).2).2.1 = ((eeFi (ewS ek0) eeN bt ov z53 lv ((ewK ek0 ek1 iv a b ov bt cf sg (k).toNat).2)).2).2.1 := by rw [hk65]
              have hk65_221 : ((ewK ek0 ek1 iv a b ov bt cf sg (k + 1).toNat).2).2.2.1 = ((eeFi (ewS ek0) eeN bt ov z53 lv ((ewK ek0 ek1 iv a b ov bt cf sg (k).toNat).2)).2).2.2.1 := by rw [hk65]
              have hso66 : gSO ty ((ewK ek0 ek1 iv a b ov bt cf sg (k + 1).toNat).2) hq55 := by rw [hk65]; exact yq55_0
              have hok67 : eeOk ((ewK ek0 ek1 iv a b ov bt cf sg (k + 1).toNat).2) := by rw [hk65]; exact yq55_1
              have hok67c := hok67.cur
              refine gy_s 2 (pc' := 8) (L' := [some (.ref m), some (.int (zi a)), some (.int (zi b)), some (.int (zi ov)), some (.int (zi bt)), some (.int ((zi k) + zi 1))]) (S' := []) (L2 := [some (.ref m), some (.int (zi a)), some (.int (zi b)), some (.int (zi ov)), some (.int (zi bt)), some (.int (zi (k + 1)))]) (S2 := []) rfl (by simp only [zi_add, zi_sub, zi_mul, zi_neg, zi_and1, zi_and7, zi_and15, zi_and31, zi_and255]) (by simp only [zi_add, zi_sub, zi_mul, zi_neg, zi_and1, zi_and7, zi_and15, zi_and31, zi_and255]) ?_
              exact gz_wk (ihlp12 hq55 (k + 1) fq55_0 fq55_1 fq55_2 fq55_3 (by omega) sq55 (by omega) (by omega) (by omega) (by omega) (by omega) (by omega) (by omega) (by omega) (by omega) (by omega) (by omega) (by omega) s56 s57 s58 efq55_0 efq55_1 efq55_2 efq55_3 pr60 htk63 pr62 hso66 hok67) (gLw.s (gLw.s (gLw.s (gLw.s (gLw.s (gLw.s gLw.z))))))
            · refine gy_ifF rfl (by decide) (by decide) (by omega) hc64 ?_
              have htk68 := gTk.imp (Q := True) (fun _ => by omega) pr62
              have hKF : (if 1 ≤ a then a else 1) = 1 := if_neg (by omega)
              refine gy_s 7 (pc' := 114) (L' := [some (.ref m), some (.int (zi a)), some (.int (zi b)), some (.int (zi ov)), some (.int (zi bt)), some (.int (zi k))]) (S' := [.int (zi bt), .int (zi b), .int (zi 1), .int ((zi 64) * (zi k)), .ref m]) (L2 := [some (.ref m), some (.int (zi a)), some (.int (zi b)), some (.int (zi ov)), some (.int (zi bt)), some (.int (zi k))]) (S2 := [.int (zi bt), .int (zi b), .int (zi 1), .int (zi (64 * k)), .ref m]) rfl (by simp only [zi_add, zi_sub, zi_mul, zi_neg, zi_and1, zi_and7, zi_and15, zi_and31, zi_and255]) (by simp only [zi_add, zi_sub, zi_mul, zi_neg, zi_and1, zi_and7, zi_and15, zi_and31, zi_and255]) ?_
              refine gz_call rfl (by decide) rfl (by decide) (by decide) (gcal_of rfl rfl rfl (Nat.le_of_ble_eq_true rfl) (gJ.recv (G := gGG) sq55.1 tm rfl rfl)) (mw_putOthers _ sq55.1 m tm (64 * k) (by omega) 1 (by omega) b (by omega) bt (by omega) fq55_0 efq55_0 (by omega) fq55_1 efq55_1 (by omega) fq55_2 efq55_2 (by omega) ic s56 (by omega) mb s57 (by omega) cf ((eeFi (ewS ek0) eeN bt ov z53 lv ((ewK ek0 ek1 iv a b ov bt cf sg (k).toNat).2)).2) ek1 (by omega) (by omega) (by omega) (by omega) (by omega) (by omega) uq yq55_0 yq55_1 htk68 pr60) (fun q69 _ wq69 => ?_)
              obtain ⟨pq69, oq69, hq69⟩ := q69
              obtain ⟨xq69, fq69_0, fq69_1, fq69_2, gq69, efq69_0, afq69_0, bfq69_0, efq69_1, afq69_1, bfq69_1, efq69_2, afq69_2, bfq69_2, uq69_0, uq69_1, uq69_2, uq69_3, uq69_4, yq69_0, yq69_1⟩ := wq69
              refine ⟨_, gq69, ?_⟩
              show gz gPP gGG gcn _ _ 117 [some (.ref m), some (.int (zi a)), some (.int (zi b)), some (.int (zi ov)), some (.int (zi bt)), some (.int (zi k))] [] hq69 _
              have sq69 := gSs.tr sq55 xq69 (by decide)
              have s70 := (xq69.2.2.2.2.2 m 67 (by rw [tm]; decide)).trans s56
              have s71 := (xq69.2.2.2.2.2 m 64 (by rw [tm]; decide)).trans s57
              have s72 := (xq69.2.2.2.2.2 m 52 (by rw [tm]; decide)).trans s58
              have s73 := (xq69.2.2.2.2.2 m 63 (by rw [tm]; decide)).trans s59
              have s74 := (xq69.2.2.2.2.2 m 74 (by rw [tm]; decide)).trans efq55_3
              have pr75 := gRn.fr xq69.2 (by decide) pr60
              have pr76 := gTk.fr xq69.2 (by decide) (by decide) htk63
              have pr77 := gTk.fr xq69.2 (by decide) (by decide) htk68
              refine gz_s 1 (pc' := 161) (L' := [some (.ref m), some (.int (zi a)), some (.int (zi b)), some (.int (zi ov)), some (.int (zi bt)), some (.int (zi k))]) (S' := []) rfl ?_
              have htk78 := gTk.imp (Q := 0 < b) (fun _ => trivial) pr77
              have hK : ewK ek0 ek1 iv a b ov bt cf sg (k + 1).toNat = ((eeFi (ewS ek0) eeN bt ov z53 lv ((ewK ek0 ek1 iv a b ov bt cf sg (k).toNat).2)).1, eeOt (ewS ek1) eeN bt cf ((64 * k) + 1).toNat (b - 1 + 1).toNat ((eeFi (ewS ek0) eeN bt ov z53 lv ((ewK ek0 ek1 iv a b ov bt cf sg (k).toNat).2)).2)) := by
                rw [hbn]
                exact ewK_s (P := (lv, (ewK ek0 ek1 iv a b ov bt cf sg (k).toNat).2)) (F := (eeFi (ewS ek0) eeN bt ov z53 lv ((ewK ek0 ek1 iv a b ov bt cf sg (k).toNat).2))) ((ewI_n (by omega) (by intro w; rcases w with ⟨w1, w2, w3⟩; first | omega | exact absurd w3 (by assumption))).trans (by rw [show lv = (ewK ek0 ek1 iv a b ov bt cf sg (k).toNat).1 by omega])) (ite2_1 (by omega) (by rw [hcv])) (ite3_2 (by omega) (by omega) (by rw [hKF, hi2]))
              have hK1 : (ewK ek0 ek1 iv a b ov bt cf sg (k + 1).toNat).1 = (eeFi (ewS ek0) eeN bt ov z53 lv ((ewK ek0 ek1 iv a b ov bt cf sg (k).toNat).2)).1 := by rw [hK]
              have hk79 : (ewK ek0 ek1 iv a b ov bt cf sg (k + 1).toNat).2 = eeOt (ewS ek1) eeN bt cf ((64 * k) + 1).toNat (b - 1 + 1).toNat ((eeFi (ewS ek0) eeN bt ov z53 lv ((ewK ek0 ek1 iv a b ov bt cf sg (k).toNat).2)).2) := by rw [hK]
              have hk79_1 : ((ewK ek0 ek1 iv a b ov bt cf sg (k + 1).toNat).2).1 = (eeOt (ewS ek1) eeN bt cf ((64 * k) + 1).toNat (b - 1 + 1).toNat ((eeFi (ewS ek0) eeN bt ov z53 lv ((ewK ek0 ek1 iv a b ov bt cf sg (k).toNat).2)).2)).1 := by rw [hk79]
              have hk79_21 : ((ewK ek0 ek1 iv a b ov bt cf sg (k + 1).toNat).2).2.1 = (eeOt (ewS ek1) eeN bt cf ((64 * k) + 1).toNat (b - 1 + 1).toNat ((eeFi (ewS ek0) eeN bt ov z53 lv ((ewK ek0 ek1 iv a b ov bt cf sg (k).toNat).2)).2)).2.1 := by rw [hk79]
              have hk79_221 : ((ewK ek0 ek1 iv a b ov bt cf sg (k + 1).toNat).2).2.2.1 = (eeOt (ewS ek1) eeN bt cf ((64 * k) + 1).toNat (b - 1 + 1).toNat ((eeFi (ewS ek0) eeN bt ov z53 lv ((ewK ek0 ek1 iv a b ov bt cf sg (k).toNat).2)).2)).2.2.1 := by rw [hk79]
              have hso80 : gSO ty ((ewK ek0 ek1 iv a b ov bt cf sg (k + 1).toNat).2) hq69 := by rw [hk79]; exact yq69_0
              have hok81 : eeOk ((ewK ek0 ek1 iv a b ov bt cf sg (k + 1).toNat).2) := by rw [hk79]; exact yq69_1
              have hok81c := hok81.cur
              refine gy_s 2 (pc' := 8) (L' := [some (.ref m), some (.int (zi a)), some (.int (zi b)), some (.int (zi ov)), some (.int (zi bt)), some (.int ((zi k) + zi 1))]) (S' := []) (L2 := [some (.ref m), some (.int (zi a)), some (.int (zi b)), some (.int (zi ov)), some (.int (zi bt)), some (.int (zi (k + 1)))]) (S2 := []) rfl (by simp only [zi_add, zi_sub, zi_mul, zi_neg, zi_and1, zi_and7, zi_and15, zi_and31, zi_and255]) (by simp only [zi_add, zi_sub, zi_mul, zi_neg, zi_and1, zi_and7, zi_and15, zi_and31, zi_and255]) ?_
              exact gz_wk (ihlp12 hq69 (k + 1) fq69_0 fq69_1 fq69_2 fq55_3 (by omega) sq69 (by omega) (by omega) (by omega) (by omega) (by omega) (by omega) (by omega) (by omega) (by omega) (by omega) (by omega) (by omega) s70 s71 s72 efq69_0 efq69_1 efq69_2 s74 pr75 pr76 htk78 hso80 hok81) (gLw.s (gLw.s (gLw.s (gLw.s (gLw.s (gLw.s gLw.z))))))
        · refine gy_ifF rfl (by decide) (by decide) (by omega) hc21 ?_
          refine gz_s 1 (pc' := 26) (L' := [some (.ref m), some (.int (zi a)), some (.int (zi b)), some (.int (zi ov)), some (.int (zi bt)), some (.int (zi k))]) (S' := [.int (zi k)]) rfl ?_
          by_cases hc82 : (k : Int) ≤ 0
          · refine gy_ifT (pc' := 75) rfl (by decide) (by decide) (by omega) hc82 ?_
            refine gz_s 1 (pc' := 76) (L' := [some (.ref m), some (.int (zi a)), some (.int (zi b)), some (.int (zi ov)), some (.int (zi bt)), some (.int (zi k))]) (S' := [.int (zi a)]) rfl ?_
            by_cases hc83 : ¬ (a : Int) = 0
            · refine gy_ifT (pc' := 96) rfl (by decide) (by decide) (by omega) hc83 ?_
              refine gz_s 1 (pc' := 97) (L' := [some (.ref m), some (.int (zi a)), some (.int (zi b)), some (.int (zi ov)), some (.int (zi bt)), some (.int (zi k))]) (S' := [.int (zi a)]) rfl ?_
              refine gy_ifT (pc' := 120) rfl (by decide) (by decide) (by omega) (by first | (simp [zc]; done) | (simp only [zc]; omega)) ?_
              refine gz_s 1 (pc' := 121) (L' := [some (.ref m), some (.int (zi a)), some (.int (zi b)), some (.int (zi ov)), some (.int (zi bt)), some (.int (zi k))]) (S' := [.int (zi a)]) rfl ?_
              refine gy_ifF rfl (by decide) (by decide) (by omega) (by first | (simp [zc]; done) | (simp only [zc]; omega)) ?_
              refine gz_s 1 (pc' := 125) (L' := [some (.ref m), some (.int (zi a)), some (.int (zi b)), some (.int (zi ov)), some (.int (zi bt)), some (.int (zi k))]) (S' := [.int (zi ov)]) rfl ?_
              by_cases hc84 : ¬ (ov : Int) = 0
              · refine gy_ifT (pc' := 144) rfl (by decide) (by decide) (by omega) hc84 ?_
                refine gz_s 1 (pc' := 145) (L' := [some (.ref m), some (.int (zi a)), some (.int (zi b)), some (.int (zi ov)), some (.int (zi bt)), some (.int (zi k))]) (S' := [.int (zi a)]) rfl ?_
                refine gy_ifF rfl (by decide) (by decide) (by omega) (by first | (simp [zc]; done) | (simp only [zc]; omega)) ?_
                have htk85 := gTk.imp (Q := True) (fun _ => by omega) lp12k9
                have hKF : (if 1 ≤ a then a else 1) = a := if_pos (by omega)
                refine gy_s 7 (pc' := 158) (L' := [some (.ref m), some (.int (zi a)), some (.int (zi b)), some (.int (zi ov)), some (.int (zi bt)), some (.int (zi k))]) (S' := [.int (zi bt), .int (zi b), .int (zi a), .int ((zi 64) * (zi k)), .ref m]) (L2 := [some (.ref m), some (.int (zi a)), some (.int (zi b)), some (.int (zi ov)), some (.int (zi bt)), some (.int (zi k))]) (S2 := [.int (zi bt), .int (zi b), .int (zi a), .int (zi (64 * k)), .ref m]) rfl (by simp only [zi_add, zi_sub, zi_mul, zi_neg, zi_and1, zi_and7, zi_and15, zi_and31, zi_and255]) (by simp only [zi_add, zi_sub, zi_mul, zi_neg, zi_and1, zi_and7, zi_and15, zi_and31, zi_and255]) ?_
                refine gz_call rfl (by decide) rfl (by decide) (by decide) (gcal_of rfl rfl rfl (Nat.le_of_ble_eq_true rfl) (gJ.recv (G := gGG) sh16.1 tm rfl rfl)) (mw_putMore _ sh16.1 m tm (64 * k) (by omega) a (by omega) b (by omega) bt (by omega) wv lp12k3 (by omega) uv lp12k4 (by omega) bv lp12k5 (by omega) ic lp12k0 (by omega) mb lp12k1 (by omega) cf ((ewK ek0 ek1 iv a b ov bt cf sg (k).toNat).2) ek1 (by omega) (by omega) (by omega) (by omega) (by omega) (by omega) uq lp12k10 lp12k11 htk85 lp12k7) (fun q86 _ wq86 => ?_)
                obtain ⟨pq86, oq86, hq86⟩ := q86
                obtain ⟨xq86, fq86_0, fq86_1, fq86_2, gq86, efq86_0, afq86_0, bfq86_0, efq86_1, afq86_1, bfq86_1, efq86_2, afq86_2, bfq86_2, uq86_0, uq86_1, uq86_2, uq86_3, uq86_4, yq86_0, yq86_1⟩ := wq86
                refine ⟨_, gq86, ?_⟩
                show gz gPP gGG gcn _ _ 161 [some (.ref m), some (.int (zi a)), some (.int (zi b)), some (.int (zi ov)), some (.int (zi bt)), some (.int (zi k))] [] hq86 _
                have sq86 := gSs.tr sh16 xq86 (by decide)
                have s87 := (xq86.2.2.2.2.2 m 67 (by rw [tm]; decide)).trans lp12k0
                have s88 := (xq86.2.2.2.2.2 m 64 (by rw [tm]; decide)).trans lp12k1
                have s89 := (xq86.2.2.2.2.2 m 52 (by rw [tm]; decide)).trans lp12k2
                have s90 := (xq86.2.2.2.2.2 m 74 (by rw [tm]; decide)).trans lp12k6
                have pr91 := gRn.fr xq86.2 (by decide) lp12k7
                have pr92 := gTk.fr xq86.2 (by decide) (by decide) lp12k8
                have pr93 := gTk.fr xq86.2 (by decide) (by decide) htk85
                have htk94 := gTk.imp (Q := 0 < b) (fun _ => trivial) pr93
                have hK : ewK ek0 ek1 iv a b ov bt cf sg (k + 1).toNat = ((lv, (ewK ek0 ek1 iv a b ov bt cf sg (k).toNat).2).1, eeRz (ewS ek1) eeN bt cf (64 * k) a b ((ewK ek0 ek1 iv a b ov bt cf sg (k).toNat).2)) := by
                  rw [hbn]
                  exact ewK_s (P := (lv, (ewK ek0 ek1 iv a b ov bt cf sg (k).toNat).2)) (F := (lv, (ewK ek0 ek1 iv a b ov bt cf sg (k).toNat).2)) ((ewI_n (by omega) (by intro w; rcases w with ⟨w1, w2, w3⟩; first | omega | exact absurd w3 (by assumption))).trans (by rw [show lv = (ewK ek0 ek1 iv a b ov bt cf sg (k).toNat).1 by omega])) (ite2_2 (by omega) rfl) (ite3_1 ⟨by omega, by omega⟩ (by unfold eeRz; rw [hi1]))
                have hK1 : (ewK ek0 ek1 iv a b ov bt cf sg (k + 1).toNat).1 = (lv, (ewK ek0 ek1 iv a b ov bt cf sg (k).toNat).2).1 := by rw [hK]
                have hK2 : (lv, (ewK ek0 ek1 iv a b ov bt cf sg (k).toNat).2).1 = lv := rfl
                have hk95 : (ewK ek0 ek1 iv a b ov bt cf sg (k + 1).toNat).2 = eeRz (ewS ek1) eeN bt cf (64 * k) a b ((ewK ek0 ek1 iv a b ov bt cf sg (k).toNat).2) := by rw [hK]
                have hk95_1 : ((ewK ek0 ek1 iv a b ov bt cf sg (k + 1).toNat).2).1 = (eeRz (ewS ek1) eeN bt cf (64 * k) a b ((ewK ek0 ek1 iv a b ov bt cf sg (k).toNat).2)).1 := by rw [hk95]
                have hk95_21 : ((ewK ek0 ek1 iv a b ov bt cf sg (k + 1).toNat).2).2.1 = (eeRz (ewS ek1) eeN bt cf (64 * k) a b ((ewK ek0 ek1 iv a b ov bt cf sg (k).toNat).2)).2.1 := by rw [hk95]
                have hk95_221 : ((ewK ek0 ek1 iv a b ov bt cf sg (k + 1).toNat).2).2.2.1 = (eeRz (ewS ek1) eeN bt cf (64 * k) a b ((ewK ek0 ek1 iv a b ov bt cf sg (k).toNat).2)).2.2.1 := by rw [hk95]
                have hso96 : gSO ty ((ewK ek0 ek1 iv a b ov bt cf sg (k + 1).toNat).2) hq86 := by rw [hk95]; exact yq86_0
                have hok97 : eeOk ((ewK ek0 ek1 iv a b ov bt cf sg (k + 1).toNat).2) := by rw [hk95]; exact yq86_1
                have hok97c := hok97.cur
                refine gy_s 2 (pc' := 8) (L' := [some (.ref m), some (.int (zi a)), some (.int (zi b)), some (.int (zi ov)), some (.int (zi bt)), some (.int ((zi k) + zi 1))]) (S' := []) (L2 := [some (.ref m), some (.int (zi a)), some (.int (zi b)), some (.int (zi ov)), some (.int (zi bt)), some (.int (zi (k + 1)))]) (S2 := []) rfl (by simp only [zi_add, zi_sub, zi_mul, zi_neg, zi_and1, zi_and7, zi_and15, zi_and31, zi_and255]) (by simp only [zi_add, zi_sub, zi_mul, zi_neg, zi_and1, zi_and7, zi_and15, zi_and31, zi_and255]) ?_
                exact gz_wk (ihlp12 hq86 (k + 1) fq86_0 fq86_1 fq86_2 lv (by omega) sq86 (by omega) (by omega) (by omega) (by omega) (by omega) (by omega) (by omega) (by omega) (by omega) (by omega) (by omega) (by omega) s87 s88 s89 efq86_0 efq86_1 efq86_2 s90 pr91 pr92 htk94 hso96 hok97) (gLw.s (gLw.s (gLw.s (gLw.s (gLw.s (gLw.s gLw.z))))))
              · refine gy_ifF rfl (by decide) (by decide) (by omega) hc84 ?_
                have htk98 := gTk.imp (Q := True) (fun _ => by omega) lp12k9
                have hKF : (if 1 ≤ a then a else 1) = a := if_pos (by omega)
                refine gy_s 7 (pc' := 138) (L' := [some (.ref m), some (.int (zi a)), some (.int (zi b)), some (.int (zi ov)), some (.int (zi bt)), some (.int (zi k))]) (S' := [.int (zi bt), .int (zi b), .int (zi a), .int ((zi 64) * (zi k)), .ref m]) (L2 := [some (.ref m), some (.int (zi a)), some (.int (zi b)), some (.int (zi ov)), some (.int (zi bt)), some (.int (zi k))]) (S2 := [.int (zi bt), .int (zi b), .int (zi a), .int (zi (64 * k)), .ref m]) rfl (by simp only [zi_add, zi_sub, zi_mul, zi_neg, zi_and1, zi_and7, zi_and15, zi_and31, zi_and255]) (by simp only [zi_add, zi_sub, zi_mul, zi_neg, zi_and1, zi_and7, zi_and15, zi_and31, zi_and255]) ?_
                refine gz_call rfl (by decide) rfl (by decide) (by decide) (gcal_of rfl rfl rfl (Nat.le_of_ble_eq_true rfl) (gJ.recv (G := gGG) sh16.1 tm rfl rfl)) (mw_putOthers _ sh16.1 m tm (64 * k) (by omega) a (by omega) b (by omega) bt (by omega) wv lp12k3 (by omega) uv lp12k4 (by omega) bv lp12k5 (by omega) ic lp12k0 (by omega) mb lp12k1 (by omega) cf ((ewK ek0 ek1 iv a b ov bt cf sg (k).toNat).2) ek1 (by omega) (by omega) (by omega) (by omega) (by omega) (by omega) uq lp12k10 lp12k11 htk98 lp12k7) (fun q99 _ wq99 => ?_)
                obtain ⟨pq99, oq99, hq99⟩ := q99
                obtain ⟨xq99, fq99_0, fq99_1, fq99_2, gq99, efq99_0, afq99_0, bfq99_0, efq99_1, afq99_1, bfq99_1, efq99_2, afq99_2, bfq99_2, uq99_0, uq99_1, uq99_2, uq99_3, uq99_4, yq99_0, yq99_1⟩ := wq99
                refine ⟨_, gq99, ?_⟩
                show gz gPP gGG gcn _ _ 141 [some (.ref m), some (.int (zi a)), some (.int (zi b)), some (.int (zi ov)), some (.int (zi bt)), some (.int (zi k))] [] hq99 _
                have sq99 := gSs.tr sh16 xq99 (by decide)
                have s100 := (xq99.2.2.2.2.2 m 67 (by rw [tm]; decide)).trans lp12k0
                have s101 := (xq99.2.2.2.2.2 m 64 (by rw [tm]; decide)).trans lp12k1
                have s102 := (xq99.2.2.2.2.2 m 52 (by rw [tm]; decide)).trans lp12k2
                have s103 := (xq99.2.2.2.2.2 m 74 (by rw [tm]; decide)).trans lp12k6
                have pr104 := gRn.fr xq99.2 (by decide) lp12k7
                have pr105 := gTk.fr xq99.2 (by decide) (by decide) lp12k8
                have pr106 := gTk.fr xq99.2 (by decide) (by decide) htk98
                refine gz_s 1 (pc' := 161) (L' := [some (.ref m), some (.int (zi a)), some (.int (zi b)), some (.int (zi ov)), some (.int (zi bt)), some (.int (zi k))]) (S' := []) rfl ?_
                have htk107 := gTk.imp (Q := 0 < b) (fun _ => trivial) pr106
                have hK : ewK ek0 ek1 iv a b ov bt cf sg (k + 1).toNat = ((lv, (ewK ek0 ek1 iv a b ov bt cf sg (k).toNat).2).1, eeOt (ewS ek1) eeN bt cf ((64 * k) + a).toNat (b - a + 1).toNat ((ewK ek0 ek1 iv a b ov bt cf sg (k).toNat).2)) := by
                  rw [hbn]
                  exact ewK_s (P := (lv, (ewK ek0 ek1 iv a b ov bt cf sg (k).toNat).2)) (F := (lv, (ewK ek0 ek1 iv a b ov bt cf sg (k).toNat).2)) ((ewI_n (by omega) (by intro w; rcases w with ⟨w1, w2, w3⟩; first | omega | exact absurd w3 (by assumption))).trans (by rw [show lv = (ewK ek0 ek1 iv a b ov bt cf sg (k).toNat).1 by omega])) (ite2_2 (by omega) rfl) (ite3_2 (by omega) (by omega) (by rw [hKF, hi1]))
                have hK1 : (ewK ek0 ek1 iv a b ov bt cf sg (k + 1).toNat).1 = (lv, (ewK ek0 ek1 iv a b ov bt cf sg (k).toNat).2).1 := by rw [hK]
                have hK2 : (lv, (ewK ek0 ek1 iv a b ov bt cf sg (k).toNat).2).1 = lv := rfl
                have hk108 : (ewK ek0 ek1 iv a b ov bt cf sg (k + 1).toNat).2 = eeOt (ewS ek1) eeN bt cf ((64 * k) + a).toNat (b - a + 1).toNat ((ewK ek0 ek1 iv a b ov bt cf sg (k).toNat).2) := by rw [hK]
                have hk108_1 : ((ewK ek0 ek1 iv a b ov bt cf sg (k + 1).toNat).2).1 = (eeOt (ewS ek1) eeN bt cf ((64 * k) + a).toNat (b - a + 1).toNat ((ewK ek0 ek1 iv a b ov bt cf sg (k).toNat).2)).1 := by rw [hk108]
                have hk108_21 : ((ewK ek0 ek1 iv a b ov bt cf sg (k + 1).toNat).2).2.1 = (eeOt (ewS ek1) eeN bt cf ((64 * k) + a).toNat (b - a + 1).toNat ((ewK ek0 ek1 iv a b ov bt cf sg (k).toNat).2)).2.1 := by rw [hk108]
                have hk108_221 : ((ewK ek0 ek1 iv a b ov bt cf sg (k + 1).toNat).2).2.2.1 = (eeOt (ewS ek1) eeN bt cf ((64 * k) + a).toNat (b - a + 1).toNat ((ewK ek0 ek1 iv a b ov bt cf sg (k).toNat).2)).2.2.1 := by rw [hk108]
                have hso109 : gSO ty ((ewK ek0 ek1 iv a b ov bt cf sg (k + 1).toNat).2) hq99 := by rw [hk108]; exact yq99_0
                have hok110 : eeOk ((ewK ek0 ek1 iv a b ov bt cf sg (k + 1).toNat).2) := by rw [hk108]; exact yq99_1
                have hok110c := hok110.cur
                refine gy_s 2 (pc' := 8) (L' := [some (.ref m), some (.int (zi a)), some (.int (zi b)), some (.int (zi ov)), some (.int (zi bt)), some (.int ((zi k) + zi 1))]) (S' := []) (L2 := [some (.ref m), some (.int (zi a)), some (.int (zi b)), some (.int (zi ov)), some (.int (zi bt)), some (.int (zi (k + 1)))]) (S2 := []) rfl (by simp only [zi_add, zi_sub, zi_mul, zi_neg, zi_and1, zi_and7, zi_and15, zi_and31, zi_and255]) (by simp only [zi_add, zi_sub, zi_mul, zi_neg, zi_and1, zi_and7, zi_and15, zi_and31, zi_and255]) ?_
                exact gz_wk (ihlp12 hq99 (k + 1) fq99_0 fq99_1 fq99_2 lv (by omega) sq99 (by omega) (by omega) (by omega) (by omega) (by omega) (by omega) (by omega) (by omega) (by omega) (by omega) (by omega) (by omega) s100 s101 s102 efq99_0 efq99_1 efq99_2 s103 pr104 pr105 htk107 hso109 hok110) (gLw.s (gLw.s (gLw.s (gLw.s (gLw.s (gLw.s gLw.z))))))
            · refine gy_ifF rfl (by decide) (by decide) (by omega) hc83 ?_
              have htk111 := gTk.imp (Q := ov = 0) (fun w => ⟨by omega, w⟩) lp12k8
              refine gz_s 2 (pc' := 81) (L' := [some (.ref m), some (.int (zi a)), some (.int (zi b)), some (.int (zi ov)), some (.int (zi bt)), some (.int (zi k))]) (S' := [.ref m, .ref m]) rfl ?_
              refine gs_gtr rfl (by decide) rfl sh16.1 tm rfl rfl rfl (fun c112 ec112 tc112 => ?_)
              refine gy_s 3 (pc' := 89) (L' := [some (.ref m), some (.int (zi a)), some (.int (zi b)), some (.int (zi ov)), some (.int (zi bt)), some (.int (zi k))]) (S' := [.int ((zi 64) * (zi k)), .ref c112, .ref m]) (L2 := [some (.ref m), some (.int (zi a)), some (.int (zi b)), some (.int (zi ov)), some (.int (zi bt)), some (.int (zi k))]) (S2 := [.int (zi (64 * k)), .ref c112, .ref m]) rfl (by simp only [zi_add, zi_sub, zi_mul, zi_neg, zi_and1, zi_and7, zi_and15, zi_and31, zi_and255]) (by simp only [zi_add, zi_sub, zi_mul, zi_neg, zi_and1, zi_and7, zi_and15, zi_and31, zi_and255]) ?_
              have hl113 : 1024 ≤ h16.2.2.2.1 c112 ∧ h16.2.2.2.1 c112 ≤ 1024 := gJ.rowl (G := gGG) sh16.1 tc112 rfl
              refine gs_ald rfl (by decide) sh16.1 tc112 rfl rfl rfl (by decide) (fun _ => rfl) (by omega) (by omega) (fun z114 ez114 az114 bz114 => ?_)
              have hf115 := gRn.at (i := 64 * k) (z := z114) lp12k7 tc112 ez114 (by omega) (by omega) (by omega)
              have hcv : cf (64 * (k).toNat) = z114 := by rw [← hi0]; exact hf115
              refine gz_s 2 (pc' := 93) (L' := [some (.ref m), some (.int (zi a)), some (.int (zi b)), some (.int (zi ov)), some (.int (zi bt)), some (.int (zi k))]) (S' := [.int (zi bt), .int (zi ov), .int (zi z114), .ref m]) rfl ?_
              refine gz_call rfl (by decide) rfl (by decide) (by decide) (gcal_of rfl rfl rfl (Nat.le_of_ble_eq_true rfl) (gJ.recv (G := gGG) sh16.1 tm rfl rfl)) (mw_putFirst _ sh16.1 m tm z114 (by omega) ov (by omega) bt (by omega) wv lp12k3 (by omega) uv lp12k4 (by omega) bv lp12k5 (by omega) ic lp12k0 (by omega) lv lp12k6 (by omega) ((ewK ek0 ek1 iv a b ov bt cf sg (k).toNat).2) ek0 (by omega) (by omega) (by omega) (by omega) uq lp12k10 lp12k11 htk111) (fun q116 _ wq116 => ?_)
              obtain ⟨pq116, oq116, hq116⟩ := q116
              obtain ⟨xq116, fq116_0, fq116_1, fq116_2, fq116_3, gq116, efq116_0, afq116_0, bfq116_0, efq116_1, afq116_1, bfq116_1, efq116_2, afq116_2, bfq116_2, efq116_3, afq116_3, bfq116_3, uq116_0, uq116_1, uq116_2, uq116_3, uq116_4, uq116_5, yq116_0, yq116_1⟩ := wq116
              refine ⟨_, gq116, ?_⟩
              show gz gPP gGG gcn _ _ 96 [some (.ref m), some (.int (zi a)), some (.int (zi b)), some (.int (zi ov)), some (.int (zi bt)), some (.int (zi k))] [] hq116 _
              have sq116 := gSs.tr sh16 xq116 (by decide)
              have s117 := (xq116.2.2.2.2.2 m 67 (by rw [tm]; decide)).trans lp12k0
              have s118 := (xq116.2.2.2.2.2 m 64 (by rw [tm]; decide)).trans lp12k1
              have s119 := (xq116.2.2.2.2.2 m 52 (by rw [tm]; decide)).trans lp12k2
              have s120 := (xq116.2.2.2.2.2 m 63 (by rw [tm]; decide)).trans ec112
              have pr121 := gRn.fr xq116.2 (by decide) lp12k7
              have pr122 := gTk.fr xq116.2 (by decide) (by decide) htk111
              have pr123 := gTk.fr xq116.2 (by decide) (by decide) lp12k9
              have htk124 := gTk.imp (Q := a = 0 ∧ ov = 0) (fun w => w.2) pr122
              refine gz_s 1 (pc' := 97) (L' := [some (.ref m), some (.int (zi a)), some (.int (zi b)), some (.int (zi ov)), some (.int (zi bt)), some (.int (zi k))]) (S' := [.int (zi a)]) rfl ?_
              refine gy_ifF rfl (by decide) (by decide) (by omega) (by first | (simp [zc]; done) | (simp only [zc]; omega)) ?_
              refine gz_s 1 (pc' := 101) (L' := [some (.ref m), some (.int (zi a)), some (.int (zi b)), some (.int (zi ov)), some (.int (zi bt)), some (.int (zi k))]) (S' := [.int (zi b)]) rfl ?_
              by_cases hc125 : (b : Int) ≤ 0
              · refine gy_ifT (pc' := 120) rfl (by decide) (by decide) (by omega) hc125 ?_
                refine gz_s 1 (pc' := 121) (L' := [some (.ref m), some (.int (zi a)), some (.int (zi b)), some (.int (zi ov)), some (.int (zi bt)), some (.int (zi k))]) (S' := [.int (zi a)]) rfl ?_
                refine gy_ifT (pc' := 144) rfl (by decide) (by decide) (by omega) (by first | (simp [zc]; done) | (simp only [zc]; omega)) ?_
                refine gz_s 1 (pc' := 145) (L' := [some (.ref m), some (.int (zi a)), some (.int (zi b)), some (.int (zi ov)), some (.int (zi bt)), some (.int (zi k))]) (S' := [.int (zi a)]) rfl ?_
                refine gy_ifT (pc' := 161) rfl (by decide) (by decide) (by omega) (by first | (simp [zc]; done) | (simp only [zc]; omega)) ?_
                have hK : ewK ek0 ek1 iv a b ov bt cf sg (k + 1).toNat = ((eeFi (ewS ek0) eeN bt ov z114 lv ((ewK ek0 ek1 iv a b ov bt cf sg (k).toNat).2)).1, (eeFi (ewS ek0) eeN bt ov z114 lv ((ewK ek0 ek1 iv a b ov bt cf sg (k).toNat).2)).2) := by
                  rw [hbn]
                  exact ewK_s (P := (lv, (ewK ek0 ek1 iv a b ov bt cf sg (k).toNat).2)) (F := (eeFi (ewS ek0) eeN bt ov z114 lv ((ewK ek0 ek1 iv a b ov bt cf sg (k).toNat).2))) ((ewI_n (by omega) (by intro w; rcases w with ⟨w1, w2, w3⟩; first | omega | exact absurd w3 (by assumption))).trans (by rw [show lv = (ewK ek0 ek1 iv a b ov bt cf sg (k).toNat).1 by omega])) (ite2_1 (by omega) (by rw [hcv])) (ite3_3 (by omega) (by omega) rfl)
                have hK1 : (ewK ek0 ek1 iv a b ov bt cf sg (k + 1).toNat).1 = (eeFi (ewS ek0) eeN bt ov z114 lv ((ewK ek0 ek1 iv a b ov bt cf sg (k).toNat).2)).1 := by rw [hK]
                have hk126 : (ewK ek0 ek1 iv a b ov bt cf sg (k + 1).toNat).2 = (eeFi (ewS ek0) eeN bt ov z114 lv ((ewK ek0 ek1 iv a b ov bt cf sg (k).toNat).2)).2 := by rw [hK]
                have hk126_1 : ((ewK ek0 ek1 iv a b ov bt cf sg (k + 1).toNat).2).1 = ((eeFi (ewS ek0) eeN bt ov z114 lv ((ewK ek0 ek1 iv a b ov bt cf sg (k).toNat).2)).2).1 := by rw [hk126]
                have hk126_21 : ((ewK ek0 ek1 iv a b ov bt cf sg (k + 1).toNat).2).2.1 = ((eeFi (ewS ek0) eeN bt ov z114 lv ((ewK ek0 ek1 iv a b ov bt cf sg (k).toNat).2)).2).2.1 := by rw [hk126]
                have hk126_221 : ((ewK ek0 ek1 iv a b ov bt cf sg (k + 1).toNat).2).2.2.1 = ((eeFi (ewS ek0) eeN bt ov z114 lv ((ewK ek0 ek1 iv a b ov bt cf sg (k).toNat).2)).2).2.2.1 := by rw [hk126]
                have hso127 : gSO ty ((ewK ek0 ek1 iv a b ov bt cf sg (k + 1).toNat).2) hq116 := by rw [hk126]; exact yq116_0
                have hok128 : eeOk ((ewK ek0 ek1 iv a b ov bt cf sg (k + 1).toNat).2) := by rw [hk126]; exact yq116_1
                have hok128c := hok128.cur
                refine gy_s 2 (pc' := 8) (L' := [some (.ref m), some (.int (zi a)), some (.int (zi b)), some (.int (zi ov)), some (.int (zi bt)), some (.int ((zi k) + zi 1))]) (S' := []) (L2 := [some (.ref m), some (.int (zi a)), some (.int (zi b)), some (.int (zi ov)), some (.int (zi bt)), some (.int (zi (k + 1)))]) (S2 := []) rfl (by simp only [zi_add, zi_sub, zi_mul, zi_neg, zi_and1, zi_and7, zi_and15, zi_and31, zi_and255]) (by simp only [zi_add, zi_sub, zi_mul, zi_neg, zi_and1, zi_and7, zi_and15, zi_and31, zi_and255]) ?_
                exact gz_wk (ihlp12 hq116 (k + 1) fq116_0 fq116_1 fq116_2 fq116_3 (by omega) sq116 (by omega) (by omega) (by omega) (by omega) (by omega) (by omega) (by omega) (by omega) (by omega) (by omega) (by omega) (by omega) s117 s118 s119 efq116_0 efq116_1 efq116_2 efq116_3 pr121 htk124 pr123 hso127 hok128) (gLw.s (gLw.s (gLw.s (gLw.s (gLw.s (gLw.s gLw.z))))))
              · refine gy_ifF rfl (by decide) (by decide) (by omega) hc125 ?_
                have htk129 := gTk.imp (Q := True) (fun _ => by omega) pr123
                have hKF : (if 1 ≤ a then a else 1) = 1 := if_neg (by omega)
                refine gy_s 7 (pc' := 114) (L' := [some (.ref m), some (.int (zi a)), some (.int (zi b)), some (.int (zi ov)), some (.int (zi bt)), some (.int (zi k))]) (S' := [.int (zi bt), .int (zi b), .int (zi 1), .int ((zi 64) * (zi k)), .ref m]) (L2 := [some (.ref m), some (.int (zi a)), some (.int (zi b)), some (.int (zi ov)), some (.int (zi bt)), some (.int (zi k))]) (S2 := [.int (zi bt), .int (zi b), .int (zi 1), .int (zi (64 * k)), .ref m]) rfl (by simp only [zi_add, zi_sub, zi_mul, zi_neg, zi_and1, zi_and7, zi_and15, zi_and31, zi_and255]) (by simp only [zi_add, zi_sub, zi_mul, zi_neg, zi_and1, zi_and7, zi_and15, zi_and31, zi_and255]) ?_
                refine gz_call rfl (by decide) rfl (by decide) (by decide) (gcal_of rfl rfl rfl (Nat.le_of_ble_eq_true rfl) (gJ.recv (G := gGG) sq116.1 tm rfl rfl)) (mw_putOthers _ sq116.1 m tm (64 * k) (by omega) 1 (by omega) b (by omega) bt (by omega) fq116_0 efq116_0 (by omega) fq116_1 efq116_1 (by omega) fq116_2 efq116_2 (by omega) ic s117 (by omega) mb s118 (by omega) cf ((eeFi (ewS ek0) eeN bt ov z114 lv ((ewK ek0 ek1 iv a b ov bt cf sg (k).toNat).2)).2) ek1 (by omega) (by omega) (by omega) (by omega) (by omega) (by omega) uq yq116_0 yq116_1 htk129 pr121) (fun q130 _ wq130 => ?_)
                obtain ⟨pq130, oq130, hq130⟩ := q130
                obtain ⟨xq130, fq130_0, fq130_1, fq130_2, gq130, efq130_0, afq130_0, bfq130_0, efq130_1, afq130_1, bfq130_1, efq130_2, afq130_2, bfq130_2, uq130_0, uq130_1, uq130_2, uq130_3, uq130_4, yq130_0, yq130_1⟩ := wq130
                refine ⟨_, gq130, ?_⟩
                show gz gPP gGG gcn _ _ 117 [some (.ref m), some (.int (zi a)), some (.int (zi b)), some (.int (zi ov)), some (.int (zi bt)), some (.int (zi k))] [] hq130 _
                have sq130 := gSs.tr sq116 xq130 (by decide)
                have s131 := (xq130.2.2.2.2.2 m 67 (by rw [tm]; decide)).trans s117
                have s132 := (xq130.2.2.2.2.2 m 64 (by rw [tm]; decide)).trans s118
                have s133 := (xq130.2.2.2.2.2 m 52 (by rw [tm]; decide)).trans s119
                have s134 := (xq130.2.2.2.2.2 m 63 (by rw [tm]; decide)).trans s120
                have s135 := (xq130.2.2.2.2.2 m 74 (by rw [tm]; decide)).trans efq116_3
                have pr136 := gRn.fr xq130.2 (by decide) pr121
                have pr137 := gTk.fr xq130.2 (by decide) (by decide) htk124
                have pr138 := gTk.fr xq130.2 (by decide) (by decide) htk129
                refine gz_s 1 (pc' := 161) (L' := [some (.ref m), some (.int (zi a)), some (.int (zi b)), some (.int (zi ov)), some (.int (zi bt)), some (.int (zi k))]) (S' := []) rfl ?_
                have htk139 := gTk.imp (Q := 0 < b) (fun _ => trivial) pr138
                have hK : ewK ek0 ek1 iv a b ov bt cf sg (k + 1).toNat = ((eeFi (ewS ek0) eeN bt ov z114 lv ((ewK ek0 ek1 iv a b ov bt cf sg (k).toNat).2)).1, eeOt (ewS ek1) eeN bt cf ((64 * k) + 1).toNat (b - 1 + 1).toNat ((eeFi (ewS ek0) eeN bt ov z114 lv ((ewK ek0 ek1 iv a b ov bt cf sg (k).toNat).2)).2)) := by
                  rw [hbn]
                  exact ewK_s (P := (lv, (ewK ek0 ek1 iv a b ov bt cf sg (k).toNat).2)) (F := (eeFi (ewS ek0) eeN bt ov z114 lv ((ewK ek0 ek1 iv a b ov bt cf sg (k).toNat).2))) ((ewI_n (by omega) (by intro w; rcases w with ⟨w1, w2, w3⟩; first | omega | exact absurd w3 (by assumption))).trans (by rw [show lv = (ewK ek0 ek1 iv a b ov bt cf sg (k).toNat).1 by omega])) (ite2_1 (by omega) (by rw [hcv])) (ite3_2 (by omega) (by omega) (by rw [hKF, hi2]))
                have hK1 : (ewK ek0 ek1 iv a b ov bt cf sg (k + 1).toNat).1 = (eeFi (ewS ek0) eeN bt ov z114 lv ((ewK ek0 ek1 iv a b ov bt cf sg (k).toNat).2)).1 := by rw [hK]
                have hk140 : (ewK ek0 ek1 iv a b ov bt cf sg (k + 1).toNat).2 = eeOt (ewS ek1) eeN bt cf ((64 * k) + 1).toNat (b - 1 + 1).toNat ((eeFi (ewS ek0) eeN bt ov z114 lv ((ewK ek0 ek1 iv a b ov bt cf sg (k).toNat).2)).2) := by rw [hK]
                have hk140_1 : ((ewK ek0 ek1 iv a b ov bt cf sg (k + 1).toNat).2).1 = (eeOt (ewS ek1) eeN bt cf ((64 * k) + 1).toNat (b - 1 + 1).toNat ((eeFi (ewS ek0) eeN bt ov z114 lv ((ewK ek0 ek1 iv a b ov bt cf sg (k).toNat).2)).2)).1 := by rw [hk140]
                have hk140_21 : ((ewK ek0 ek1 iv a b ov bt cf sg (k + 1).toNat).2).2.1 = (eeOt (ewS ek1) eeN bt cf ((64 * k) + 1).toNat (b - 1 + 1).toNat ((eeFi (ewS ek0) eeN bt ov z114 lv ((ewK ek0 ek1 iv a b ov bt cf sg (k).toNat).2)).2)).2.1 := by rw [hk140]
                have hk140_221 : ((ewK ek0 ek1 iv a b ov bt cf sg (k + 1).toNat).2).2.2.1 = (eeOt (ewS ek1) eeN bt cf ((64 * k) + 1).toNat (b - 1 + 1).toNat ((eeFi (ewS ek0) eeN bt ov z114 lv ((ewK ek0 ek1 iv a b ov bt cf sg (k).toNat).2)).2)).2.2.1 := by rw [hk140]
                have hso141 : gSO ty ((ewK ek0 ek1 iv a b ov bt cf sg (k + 1).toNat).2) hq130 := by rw [hk140]; exact yq130_0
                have hok142 : eeOk ((ewK ek0 ek1 iv a b ov bt cf sg (k + 1).toNat).2) := by rw [hk140]; exact yq130_1
                have hok142c := hok142.cur
                refine gy_s 2 (pc' := 8) (L' := [some (.ref m), some (.int (zi a)), some (.int (zi b)), some (.int (zi ov)), some (.int (zi bt)), some (.int ((zi k) + zi 1))]) (S' := []) (L2 := [some (.ref m), some (.int (zi a)), some (.int (zi b)), some (.int (zi ov)), some (.int (zi bt)), some (.int (zi (k + 1)))]) (S2 := []) rfl (by simp only [zi_add, zi_sub, zi_mul, zi_neg, zi_and1, zi_and7, zi_and15, zi_and31, zi_and255]) (by simp only [zi_add, zi_sub, zi_mul, zi_neg, zi_and1, zi_and7, zi_and15, zi_and31, zi_and255]) ?_
                exact gz_wk (ihlp12 hq130 (k + 1) fq130_0 fq130_1 fq130_2 fq116_3 (by omega) sq130 (by omega) (by omega) (by omega) (by omega) (by omega) (by omega) (by omega) (by omega) (by omega) (by omega) (by omega) (by omega) s131 s132 s133 efq130_0 efq130_1 efq130_2 s135 pr136 pr137 htk139 hso141 hok142) (gLw.s (gLw.s (gLw.s (gLw.s (gLw.s (gLw.s gLw.z))))))
          · refine gy_ifF rfl (by decide) (by decide) (by omega) hc82 ?_
            refine gz_s 2 (pc' := 32) (L' := [some (.ref m), some (.int (zi a)), some (.int (zi b)), some (.int (zi ov)), some (.int (zi bt)), some (.int (zi k))]) (S' := [.ref m, .int (zi k)]) rfl ?_
            refine gs_gtk rfl (by decide) rfl sh16.1 tm rfl rfl lp12k2 ?_
            refine gy_rem rfl (by decide) (by omega) (by omega) ?_
            have hd143 := zm_f (x := k) (y := iv) (by omega) (by omega)
            by_cases hc144 : ¬ (k % iv : Int) = 0
            · refine gy_ifT (pc' := 75) rfl (by decide) (by decide) (by omega) hc144 ?_
              refine gz_s 1 (pc' := 76) (L' := [some (.ref m), some (.int (zi a)), some (.int (zi b)), some (.int (zi ov)), some (.int (zi bt)), some (.int (zi k))]) (S' := [.int (zi a)]) rfl ?_
              by_cases hc145 : ¬ (a : Int) = 0
              · refine gy_ifT (pc' := 96) rfl (by decide) (by decide) (by omega) hc145 ?_
                refine gz_s 1 (pc' := 97) (L' := [some (.ref m), some (.int (zi a)), some (.int (zi b)), some (.int (zi ov)), some (.int (zi bt)), some (.int (zi k))]) (S' := [.int (zi a)]) rfl ?_
                refine gy_ifT (pc' := 120) rfl (by decide) (by decide) (by omega) (by first | (simp [zc]; done) | (simp only [zc]; omega)) ?_
                refine gz_s 1 (pc' := 121) (L' := [some (.ref m), some (.int (zi a)), some (.int (zi b)), some (.int (zi ov)), some (.int (zi bt)), some (.int (zi k))]) (S' := [.int (zi a)]) rfl ?_
                refine gy_ifF rfl (by decide) (by decide) (by omega) (by first | (simp [zc]; done) | (simp only [zc]; omega)) ?_
                refine gz_s 1 (pc' := 125) (L' := [some (.ref m), some (.int (zi a)), some (.int (zi b)), some (.int (zi ov)), some (.int (zi bt)), some (.int (zi k))]) (S' := [.int (zi ov)]) rfl ?_
                by_cases hc146 : ¬ (ov : Int) = 0
                · refine gy_ifT (pc' := 144) rfl (by decide) (by decide) (by omega) hc146 ?_
                  refine gz_s 1 (pc' := 145) (L' := [some (.ref m), some (.int (zi a)), some (.int (zi b)), some (.int (zi ov)), some (.int (zi bt)), some (.int (zi k))]) (S' := [.int (zi a)]) rfl ?_
                  refine gy_ifF rfl (by decide) (by decide) (by omega) (by first | (simp [zc]; done) | (simp only [zc]; omega)) ?_
                  have htk147 := gTk.imp (Q := True) (fun _ => by omega) lp12k9
                  have hKF : (if 1 ≤ a then a else 1) = a := if_pos (by omega)
                  refine gy_s 7 (pc' := 158) (L' := [some (.ref m), some (.int (zi a)), some (.int (zi b)), some (.int (zi ov)), some (.int (zi bt)), some (.int (zi k))]) (S' := [.int (zi bt), .int (zi b), .int (zi a), .int ((zi 64) * (zi k)), .ref m]) (L2 := [some (.ref m), some (.int (zi a)), some (.int (zi b)), some (.int (zi ov)), some (.int (zi bt)), some (.int (zi k))]) (S2 := [.int (zi bt), .int (zi b), .int (zi a), .int (zi (64 * k)), .ref m]) rfl (by simp only [zi_add, zi_sub, zi_mul, zi_neg, zi_and1, zi_and7, zi_and15, zi_and31, zi_and255]) (by simp only [zi_add, zi_sub, zi_mul, zi_neg, zi_and1, zi_and7, zi_and15, zi_and31, zi_and255]) ?_
                  refine gz_call rfl (by decide) rfl (by decide) (by decide) (gcal_of rfl rfl rfl (Nat.le_of_ble_eq_true rfl) (gJ.recv (G := gGG) sh16.1 tm rfl rfl)) (mw_putMore _ sh16.1 m tm (64 * k) (by omega) a (by omega) b (by omega) bt (by omega) wv lp12k3 (by omega) uv lp12k4 (by omega) bv lp12k5 (by omega) ic lp12k0 (by omega) mb lp12k1 (by omega) cf ((ewK ek0 ek1 iv a b ov bt cf sg (k).toNat).2) ek1 (by omega) (by omega) (by omega) (by omega) (by omega) (by omega) uq lp12k10 lp12k11 htk147 lp12k7) (fun q148 _ wq148 => ?_)
                  obtain ⟨pq148, oq148, hq148⟩ := q148
                  obtain ⟨xq148, fq148_0, fq148_1, fq148_2, gq148, efq148_0, afq148_0, bfq148_0, efq148_1, afq148_1, bfq148_1, efq148_2, afq148_2, bfq148_2, uq148_0, uq148_1, uq148_2, uq148_3, uq148_4, yq148_0, yq148_1⟩ := wq148
                  refine ⟨_, gq148, ?_⟩
                  show gz gPP gGG gcn _ _ 161 [some (.ref m), some (.int (zi a)), some (.int (zi b)), some (.int (zi ov)), some (.int (zi bt)), some (.int (zi k))] [] hq148 _
                  have sq148 := gSs.tr sh16 xq148 (by decide)
                  have s149 := (xq148.2.2.2.2.2 m 67 (by rw [tm]; decide)).trans lp12k0
                  have s150 := (xq148.2.2.2.2.2 m 64 (by rw [tm]; decide)).trans lp12k1
                  have s151 := (xq148.2.2.2.2.2 m 52 (by rw [tm]; decide)).trans lp12k2
                  have s152 := (xq148.2.2.2.2.2 m 74 (by rw [tm]; decide)).trans lp12k6
                  have pr153 := gRn.fr xq148.2 (by decide) lp12k7
                  have pr154 := gTk.fr xq148.2 (by decide) (by decide) lp12k8
                  have pr155 := gTk.fr xq148.2 (by decide) (by decide) htk147
                  have htk156 := gTk.imp (Q := 0 < b) (fun _ => trivial) pr155
                  have hK : ewK ek0 ek1 iv a b ov bt cf sg (k + 1).toNat = ((lv, (ewK ek0 ek1 iv a b ov bt cf sg (k).toNat).2).1, eeRz (ewS ek1) eeN bt cf (64 * k) a b ((ewK ek0 ek1 iv a b ov bt cf sg (k).toNat).2)) := by
                    rw [hbn]
                    exact ewK_s (P := (lv, (ewK ek0 ek1 iv a b ov bt cf sg (k).toNat).2)) (F := (lv, (ewK ek0 ek1 iv a b ov bt cf sg (k).toNat).2)) ((ewI_n (by omega) (by intro w; rcases w with ⟨w1, w2, w3⟩; first | omega | exact absurd w3 (by assumption))).trans (by rw [show lv = (ewK ek0 ek1 iv a b ov bt cf sg (k).toNat).1 by omega])) (ite2_2 (by omega) rfl) (ite3_1 ⟨by omega, by omega⟩ (by unfold eeRz; rw [hi1]))
                  have hK1 : (ewK ek0 ek1 iv a b ov bt cf sg (k + 1).toNat).1 = (lv, (ewK ek0 ek1 iv a b ov bt cf sg (k).toNat).2).1 := by rw [hK]
                  have hK2 : (lv, (ewK ek0 ek1 iv a b ov bt cf sg (k).toNat).2).1 = lv := rfl
                  have hk157 : (ewK ek0 ek1 iv a b ov bt cf sg (k + 1).toNat).2 = eeRz (ewS ek1) eeN bt cf (64 * k) a b ((ewK ek0 ek1 iv a b ov bt cf sg (k).toNat).2) := by rw [hK]
                  have hk157_1 : ((ewK ek0 ek1 iv a b ov bt cf sg (k + 1).toNat).2).1 = (eeRz (ewS ek1) eeN bt cf (64 * k) a b ((ewK ek0 ek1 iv a b ov bt cf sg (k).toNat).2)).1 := by rw [hk157]
                  have hk157_21 : ((ewK ek0 ek1 iv a b ov bt cf sg (k + 1).toNat).2).2.1 = (eeRz (ewS ek1) eeN bt cf (64 * k) a b ((ewK ek0 ek1 iv a b ov bt cf sg (k).toNat).2)).2.1 := by rw [hk157]
                  have hk157_221 : ((ewK ek0 ek1 iv a b ov bt cf sg (k + 1).toNat).2).2.2.1 = (eeRz (ewS ek1) eeN bt cf (64 * k) a b ((ewK ek0 ek1 iv a b ov bt cf sg (k).toNat).2)).2.2.1 := by rw [hk157]
                  have hso158 : gSO ty ((ewK ek0 ek1 iv a b ov bt cf sg (k + 1).toNat).2) hq148 := by rw [hk157]; exact yq148_0
                  have hok159 : eeOk ((ewK ek0 ek1 iv a b ov bt cf sg (k + 1).toNat).2) := by rw [hk157]; exact yq148_1
                  have hok159c := hok159.cur
                  refine gy_s 2 (pc' := 8) (L' := [some (.ref m), some (.int (zi a)), some (.int (zi b)), some (.int (zi ov)), some (.int (zi bt)), some (.int ((zi k) + zi 1))]) (S' := []) (L2 := [some (.ref m), some (.int (zi a)), some (.int (zi b)), some (.int (zi ov)), some (.int (zi bt)), some (.int (zi (k + 1)))]) (S2 := []) rfl (by simp only [zi_add, zi_sub, zi_mul, zi_neg, zi_and1, zi_and7, zi_and15, zi_and31, zi_and255]) (by simp only [zi_add, zi_sub, zi_mul, zi_neg, zi_and1, zi_and7, zi_and15, zi_and31, zi_and255]) ?_
                  exact gz_wk (ihlp12 hq148 (k + 1) fq148_0 fq148_1 fq148_2 lv (by omega) sq148 (by omega) (by omega) (by omega) (by omega) (by omega) (by omega) (by omega) (by omega) (by omega) (by omega) (by omega) (by omega) s149 s150 s151 efq148_0 efq148_1 efq148_2 s152 pr153 pr154 htk156 hso158 hok159) (gLw.s (gLw.s (gLw.s (gLw.s (gLw.s (gLw.s gLw.z))))))
                · refine gy_ifF rfl (by decide) (by decide) (by omega) hc146 ?_
                  have htk160 := gTk.imp (Q := True) (fun _ => by omega) lp12k9
                  have hKF : (if 1 ≤ a then a else 1) = a := if_pos (by omega)
                  refine gy_s 7 (pc' := 138) (L' := [some (.ref m), some (.int (zi a)), some (.int (zi b)), some (.int (zi ov)), some (.int (zi bt)), some (.int (zi k))]) (S' := [.int (zi bt), .int (zi b), .int (zi a), .int ((zi 64) * (zi k)), .ref m]) (L2 := [some (.ref m), some (.int (zi a)), some (.int (zi b)), some (.int (zi ov)), some (.int (zi bt)), some (.int (zi k))]) (S2 := [.int (zi bt), .int (zi b), .int (zi a), .int (zi (64 * k)), .ref m]) rfl (by simp only [zi_add, zi_sub, zi_mul, zi_neg, zi_and1, zi_and7, zi_and15, zi_and31, zi_and255]) (by simp only [zi_add, zi_sub, zi_mul, zi_neg, zi_and1, zi_and7, zi_and15, zi_and31, zi_and255]) ?_
                  refine gz_call rfl (by decide) rfl (by decide) (by decide) (gcal_of rfl rfl rfl (Nat.le_of_ble_eq_true rfl) (gJ.recv (G := gGG) sh16.1 tm rfl rfl)) (mw_putOthers _ sh16.1 m tm (64 * k) (by omega) a (by omega) b (by omega) bt (by omega) wv lp12k3 (by omega) uv lp12k4 (by omega) bv lp12k5 (by omega) ic lp12k0 (by omega) mb lp12k1 (by omega) cf ((ewK ek0 ek1 iv a b ov bt cf sg (k).toNat).2) ek1 (by omega) (by omega) (by omega) (by omega) (by omega) (by omega) uq lp12k10 lp12k11 htk160 lp12k7) (fun q161 _ wq161 => ?_)
                  obtain ⟨pq161, oq161, hq161⟩ := q161
                  obtain ⟨xq161, fq161_0, fq161_1, fq161_2, gq161, efq161_0, afq161_0, bfq161_0, efq161_1, afq161_1, bfq161_1, efq161_2, afq161_2, bfq161_2, uq161_0, uq161_1, uq161_2, uq161_3, uq161_4, yq161_0, yq161_1⟩ := wq161
                  refine ⟨_, gq161, ?_⟩
                  show gz gPP gGG gcn _ _ 141 [some (.ref m), some (.int (zi a)), some (.int (zi b)), some (.int (zi ov)), some (.int (zi bt)), some (.int (zi k))] [] hq161 _
                  have sq161 := gSs.tr sh16 xq161 (by decide)
                  have s162 := (xq161.2.2.2.2.2 m 67 (by rw [tm]; decide)).trans lp12k0
                  have s163 := (xq161.2.2.2.2.2 m 64 (by rw [tm]; decide)).trans lp12k1
                  have s164 := (xq161.2.2.2.2.2 m 52 (by rw [tm]; decide)).trans lp12k2
                  have s165 := (xq161.2.2.2.2.2 m 74 (by rw [tm]; decide)).trans lp12k6
                  have pr166 := gRn.fr xq161.2 (by decide) lp12k7
                  have pr167 := gTk.fr xq161.2 (by decide) (by decide) lp12k8
                  have pr168 := gTk.fr xq161.2 (by decide) (by decide) htk160
                  refine gz_s 1 (pc' := 161) (L' := [some (.ref m), some (.int (zi a)), some (.int (zi b)), some (.int (zi ov)), some (.int (zi bt)), some (.int (zi k))]) (S' := []) rfl ?_
                  have htk169 := gTk.imp (Q := 0 < b) (fun _ => trivial) pr168
                  have hK : ewK ek0 ek1 iv a b ov bt cf sg (k + 1).toNat = ((lv, (ewK ek0 ek1 iv a b ov bt cf sg (k).toNat).2).1, eeOt (ewS ek1) eeN bt cf ((64 * k) + a).toNat (b - a + 1).toNat ((ewK ek0 ek1 iv a b ov bt cf sg (k).toNat).2)) := by
                    rw [hbn]
                    exact ewK_s (P := (lv, (ewK ek0 ek1 iv a b ov bt cf sg (k).toNat).2)) (F := (lv, (ewK ek0 ek1 iv a b ov bt cf sg (k).toNat).2)) ((ewI_n (by omega) (by intro w; rcases w with ⟨w1, w2, w3⟩; first | omega | exact absurd w3 (by assumption))).trans (by rw [show lv = (ewK ek0 ek1 iv a b ov bt cf sg (k).toNat).1 by omega])) (ite2_2 (by omega) rfl) (ite3_2 (by omega) (by omega) (by rw [hKF, hi1]))
                  have hK1 : (ewK ek0 ek1 iv a b ov bt cf sg (k + 1).toNat).1 = (lv, (ewK ek0 ek1 iv a b ov bt cf sg (k).toNat).2).1 := by rw [hK]
                  have hK2 : (lv, (ewK ek0 ek1 iv a b ov bt cf sg (k).toNat).2).1 = lv := rfl
                  have hk170 : (ewK ek0 ek1 iv a b ov bt cf sg (k + 1).toNat).2 = eeOt (ewS ek1) eeN bt cf ((64 * k) + a).toNat (b - a + 1).toNat ((ewK ek0 ek1 iv a b ov bt cf sg (k).toNat).2) := by rw [hK]
                  have hk170_1 : ((ewK ek0 ek1 iv a b ov bt cf sg (k + 1).toNat).2).1 = (eeOt (ewS ek1) eeN bt cf ((64 * k) + a).toNat (b - a + 1).toNat ((ewK ek0 ek1 iv a b ov bt cf sg (k).toNat).2)).1 := by rw [hk170]
                  have hk170_21 : ((ewK ek0 ek1 iv a b ov bt cf sg (k + 1).toNat).2).2.1 = (eeOt (ewS ek1) eeN bt cf ((64 * k) + a).toNat (b - a + 1).toNat ((ewK ek0 ek1 iv a b ov bt cf sg (k).toNat).2)).2.1 := by rw [hk170]
                  have hk170_221 : ((ewK ek0 ek1 iv a b ov bt cf sg (k + 1).toNat).2).2.2.1 = (eeOt (ewS ek1) eeN bt cf ((64 * k) + a).toNat (b - a + 1).toNat ((ewK ek0 ek1 iv a b ov bt cf sg (k).toNat).2)).2.2.1 := by rw [hk170]
                  have hso171 : gSO ty ((ewK ek0 ek1 iv a b ov bt cf sg (k + 1).toNat).2) hq161 := by rw [hk170]; exact yq161_0
                  have hok172 : eeOk ((ewK ek0 ek1 iv a b ov bt cf sg (k + 1).toNat).2) := by rw [hk170]; exact yq161_1
                  have hok172c := hok172.cur
                  refine gy_s 2 (pc' := 8) (L' := [some (.ref m), some (.int (zi a)), some (.int (zi b)), some (.int (zi ov)), some (.int (zi bt)), some (.int ((zi k) + zi 1))]) (S' := []) (L2 := [some (.ref m), some (.int (zi a)), some (.int (zi b)), some (.int (zi ov)), some (.int (zi bt)), some (.int (zi (k + 1)))]) (S2 := []) rfl (by simp only [zi_add, zi_sub, zi_mul, zi_neg, zi_and1, zi_and7, zi_and15, zi_and31, zi_and255]) (by simp only [zi_add, zi_sub, zi_mul, zi_neg, zi_and1, zi_and7, zi_and15, zi_and31, zi_and255]) ?_
                  exact gz_wk (ihlp12 hq161 (k + 1) fq161_0 fq161_1 fq161_2 lv (by omega) sq161 (by omega) (by omega) (by omega) (by omega) (by omega) (by omega) (by omega) (by omega) (by omega) (by omega) (by omega) (by omega) s162 s163 s164 efq161_0 efq161_1 efq161_2 s165 pr166 pr167 htk169 hso171 hok172) (gLw.s (gLw.s (gLw.s (gLw.s (gLw.s (gLw.s gLw.z))))))
              · refine gy_ifF rfl (by decide) (by decide) (by omega) hc145 ?_
                have htk173 := gTk.imp (Q := ov = 0) (fun w => ⟨by omega, w⟩) lp12k8
                refine gz_s 2 (pc' := 81) (L' := [some (.ref m), some (.int (zi a)), some (.int (zi b)), some (.int (zi ov)), some (.int (zi bt)), some (.int (zi k))]) (S' := [.ref m, .ref m]) rfl ?_
                refine gs_gtr rfl (by decide) rfl sh16.1 tm rfl rfl rfl (fun c174 ec174 tc174 => ?_)
                refine gy_s 3 (pc' := 89) (L' := [some (.ref m), some (.int (zi a)), some (.int (zi b)), some (.int (zi ov)), some (.int (zi bt)), some (.int (zi k))]) (S' := [.int ((zi 64) * (zi k)), .ref c174, .ref m]) (L2 := [some (.ref m), some (.int (zi a)), some (.int (zi b)), some (.int (zi ov)), some (.int (zi bt)), some (.int (zi k))]) (S2 := [.int (zi (64 * k)), .ref c174, .ref m]) rfl (by simp only [zi_add, zi_sub, zi_mul, zi_neg, zi_and1, zi_and7, zi_and15, zi_and31, zi_and255]) (by simp only [zi_add, zi_sub, zi_mul, zi_neg, zi_and1, zi_and7, zi_and15, zi_and31, zi_and255]) ?_
                have hl175 : 1024 ≤ h16.2.2.2.1 c174 ∧ h16.2.2.2.1 c174 ≤ 1024 := gJ.rowl (G := gGG) sh16.1 tc174 rfl
                refine gs_ald rfl (by decide) sh16.1 tc174 rfl rfl rfl (by decide) (fun _ => rfl) (by omega) (by omega) (fun z176 ez176 az176 bz176 => ?_)
                have hf177 := gRn.at (i := 64 * k) (z := z176) lp12k7 tc174 ez176 (by omega) (by omega) (by omega)
                have hcv : cf (64 * (k).toNat) = z176 := by rw [← hi0]; exact hf177
                refine gz_s 2 (pc' := 93) (L' := [some (.ref m), some (.int (zi a)), some (.int (zi b)), some (.int (zi ov)), some (.int (zi bt)), some (.int (zi k))]) (S' := [.int (zi bt), .int (zi ov), .int (zi z176), .ref m]) rfl ?_
                refine gz_call rfl (by decide) rfl (by decide) (by decide) (gcal_of rfl rfl rfl (Nat.le_of_ble_eq_true rfl) (gJ.recv (G := gGG) sh16.1 tm rfl rfl)) (mw_putFirst _ sh16.1 m tm z176 (by omega) ov (by omega) bt (by omega) wv lp12k3 (by omega) uv lp12k4 (by omega) bv lp12k5 (by omega) ic lp12k0 (by omega) lv lp12k6 (by omega) ((ewK ek0 ek1 iv a b ov bt cf sg (k).toNat).2) ek0 (by omega) (by omega) (by omega) (by omega) uq lp12k10 lp12k11 htk173) (fun q178 _ wq178 => ?_)
                obtain ⟨pq178, oq178, hq178⟩ := q178
                obtain ⟨xq178, fq178_0, fq178_1, fq178_2, fq178_3, gq178, efq178_0, afq178_0, bfq178_0, efq178_1, afq178_1, bfq178_1, efq178_2, afq178_2, bfq178_2, efq178_3, afq178_3, bfq178_3, uq178_0, uq178_1, uq178_2, uq178_3, uq178_4, uq178_5, yq178_0, yq178_1⟩ := wq178
                refine ⟨_, gq178, ?_⟩
                show gz gPP gGG gcn _ _ 96 [some (.ref m), some (.int (zi a)), some (.int (zi b)), some (.int (zi ov)), some (.int (zi bt)), some (.int (zi k))] [] hq178 _
                have sq178 := gSs.tr sh16 xq178 (by decide)
                have s179 := (xq178.2.2.2.2.2 m 67 (by rw [tm]; decide)).trans lp12k0
                have s180 := (xq178.2.2.2.2.2 m 64 (by rw [tm]; decide)).trans lp12k1
                have s181 := (xq178.2.2.2.2.2 m 52 (by rw [tm]; decide)).trans lp12k2
                have s182 := (xq178.2.2.2.2.2 m 63 (by rw [tm]; decide)).trans ec174
                have pr183 := gRn.fr xq178.2 (by decide) lp12k7
                have pr184 := gTk.fr xq178.2 (by decide) (by decide) htk173
                have pr185 := gTk.fr xq178.2 (by decide) (by decide) lp12k9
                have htk186 := gTk.imp (Q := a = 0 ∧ ov = 0) (fun w => w.2) pr184
                refine gz_s 1 (pc' := 97) (L' := [some (.ref m), some (.int (zi a)), some (.int (zi b)), some (.int (zi ov)), some (.int (zi bt)), some (.int (zi k))]) (S' := [.int (zi a)]) rfl ?_
                refine gy_ifF rfl (by decide) (by decide) (by omega) (by first | (simp [zc]; done) | (simp only [zc]; omega)) ?_
                refine gz_s 1 (pc' := 101) (L' := [some (.ref m), some (.int (zi a)), some (.int (zi b)), some (.int (zi ov)), some (.int (zi bt)), some (.int (zi k))]) (S' := [.int (zi b)]) rfl ?_
                by_cases hc187 : (b : Int) ≤ 0
                · refine gy_ifT (pc' := 120) rfl (by decide) (by decide) (by omega) hc187 ?_
                  refine gz_s 1 (pc' := 121) (L' := [some (.ref m), some (.int (zi a)), some (.int (zi b)), some (.int (zi ov)), some (.int (zi bt)), some (.int (zi k))]) (S' := [.int (zi a)]) rfl ?_
                  refine gy_ifT (pc' := 144) rfl (by decide) (by decide) (by omega) (by first | (simp [zc]; done) | (simp only [zc]; omega)) ?_
                  refine gz_s 1 (pc' := 145) (L' := [some (.ref m), some (.int (zi a)), some (.int (zi b)), some (.int (zi ov)), some (.int (zi bt)), some (.int (zi k))]) (S' := [.int (zi a)]) rfl ?_
                  refine gy_ifT (pc' := 161) rfl (by decide) (by decide) (by omega) (by first | (simp [zc]; done) | (simp only [zc]; omega)) ?_
                  have hK : ewK ek0 ek1 iv a b ov bt cf sg (k + 1).toNat = ((eeFi (ewS ek0) eeN bt ov z176 lv ((ewK ek0 ek1 iv a b ov bt cf sg (k).toNat).2)).1, (eeFi (ewS ek0) eeN bt ov z176 lv ((ewK ek0 ek1 iv a b ov bt cf sg (k).toNat).2)).2) := by
                    rw [hbn]
                    exact ewK_s (P := (lv, (ewK ek0 ek1 iv a b ov bt cf sg (k).toNat).2)) (F := (eeFi (ewS ek0) eeN bt ov z176 lv ((ewK ek0 ek1 iv a b ov bt cf sg (k).toNat).2))) ((ewI_n (by omega) (by intro w; rcases w with ⟨w1, w2, w3⟩; first | omega | exact absurd w3 (by assumption))).trans (by rw [show lv = (ewK ek0 ek1 iv a b ov bt cf sg (k).toNat).1 by omega])) (ite2_1 (by omega) (by rw [hcv])) (ite3_3 (by omega) (by omega) rfl)
                  have hK1 : (ewK ek0 ek1 iv a b ov bt cf sg (k + 1).toNat).1 = (eeFi (ewS ek0) eeN bt ov z176 lv ((ewK ek0 ek1 iv a b ov bt cf sg (k).toNat).2)).1 := by rw [hK]
                  have hk188 : (ewK ek0 ek1 iv a b ov bt cf sg (k + 1).toNat).2 = (eeFi (ewS ek0) eeN bt ov z176 lv ((ewK ek0 ek1 iv a b ov bt cf sg (k).toNat).2)).2 := by rw [hK]
                  have hk188_1 : ((ewK ek0 ek1 iv a b ov bt cf sg (k + 1).toNat).2).1 = ((eeFi (ewS ek0) eeN bt ov z176 lv ((ewK ek0 ek1 iv a b ov bt cf sg (k).toNat).2)).2).1 := by rw [hk188]
                  have hk188_21 : ((ewK ek0 ek1 iv a b ov bt cf sg (k + 1).toNat).2).2.1 = ((eeFi (ewS ek0) eeN bt ov z176 lv ((ewK ek0 ek1 iv a b ov bt cf sg (k).toNat).2)).2).2.1 := by rw [hk188]
                  have hk188_221 : ((ewK ek0 ek1 iv a b ov bt cf sg (k + 1).toNat).2).2.2.1 = ((eeFi (ewS ek0) eeN bt ov z176 lv ((ewK ek0 ek1 iv a b ov bt cf sg (k).toNat).2)).2).2.2.1 := by rw [hk188]
                  have hso189 : gSO ty ((ewK ek0 ek1 iv a b ov bt cf sg (k + 1).toNat).2) hq178 := by rw [hk188]; exact yq178_0
                  have hok190 : eeOk ((ewK ek0 ek1 iv a b ov bt cf sg (k + 1).toNat).2) := by rw [hk188]; exact yq178_1
                  have hok190c := hok190.cur
                  refine gy_s 2 (pc' := 8) (L' := [some (.ref m), some (.int (zi a)), some (.int (zi b)), some (.int (zi ov)), some (.int (zi bt)), some (.int ((zi k) + zi 1))]) (S' := []) (L2 := [some (.ref m), some (.int (zi a)), some (.int (zi b)), some (.int (zi ov)), some (.int (zi bt)), some (.int (zi (k + 1)))]) (S2 := []) rfl (by simp only [zi_add, zi_sub, zi_mul, zi_neg, zi_and1, zi_and7, zi_and15, zi_and31, zi_and255]) (by simp only [zi_add, zi_sub, zi_mul, zi_neg, zi_and1, zi_and7, zi_and15, zi_and31, zi_and255]) ?_
                  exact gz_wk (ihlp12 hq178 (k + 1) fq178_0 fq178_1 fq178_2 fq178_3 (by omega) sq178 (by omega) (by omega) (by omega) (by omega) (by omega) (by omega) (by omega) (by omega) (by omega) (by omega) (by omega) (by omega) s179 s180 s181 efq178_0 efq178_1 efq178_2 efq178_3 pr183 htk186 pr185 hso189 hok190) (gLw.s (gLw.s (gLw.s (gLw.s (gLw.s (gLw.s gLw.z))))))
                · refine gy_ifF rfl (by decide) (by decide) (by omega) hc187 ?_
                  have htk191 := gTk.imp (Q := True) (fun _ => by omega) pr185
                  have hKF : (if 1 ≤ a then a else 1) = 1 := if_neg (by omega)
                  refine gy_s 7 (pc' := 114) (L' := [some (.ref m), some (.int (zi a)), some (.int (zi b)), some (.int (zi ov)), some (.int (zi bt)), some (.int (zi k))]) (S' := [.int (zi bt), .int (zi b), .int (zi 1), .int ((zi 64) * (zi k)), .ref m]) (L2 := [some (.ref m), some (.int (zi a)), some (.int (zi b)), some (.int (zi ov)), some (.int (zi bt)), some (.int (zi k))]) (S2 := [.int (zi bt), .int (zi b), .int (zi 1), .int (zi (64 * k)), .ref m]) rfl (by simp only [zi_add, zi_sub, zi_mul, zi_neg, zi_and1, zi_and7, zi_and15, zi_and31, zi_and255]) (by simp only [zi_add, zi_sub, zi_mul, zi_neg, zi_and1, zi_and7, zi_and15, zi_and31, zi_and255]) ?_
                  refine gz_call rfl (by decide) rfl (by decide) (by decide) (gcal_of rfl rfl rfl (Nat.le_of_ble_eq_true rfl) (gJ.recv (G := gGG) sq178.1 tm rfl rfl)) (mw_putOthers _ sq178.1 m tm (64 * k) (by omega) 1 (by omega) b (by omega) bt (by omega) fq178_0 efq178_0 (by omega) fq178_1 efq178_1 (by omega) fq178_2 efq178_2 (by omega) ic s179 (by omega) mb s180 (by omega) cf ((eeFi (ewS ek0) eeN bt ov z176 lv ((ewK ek0 ek1 iv a b ov bt cf sg (k).toNat).2)).2) ek1 (by omega) (by omega) (by omega) (by omega) (by omega) (by omega) uq yq178_0 yq178_1 htk191 pr183) (fun q192 _ wq192 => ?_)
                  obtain ⟨pq192, oq192, hq192⟩ := q192
                  obtain ⟨xq192, fq192_0, fq192_1, fq192_2, gq192, efq192_0, afq192_0, bfq192_0, efq192_1, afq192_1, bfq192_1, efq192_2, afq192_2, bfq192_2, uq192_0, uq192_1, uq192_2, uq192_3, uq192_4, yq192_0, yq192_1⟩ := wq192
                  refine ⟨_, gq192, ?_⟩
                  show gz gPP gGG gcn _ _ 117 [some (.ref m), some (.int (zi a)), some (.int (zi b)), some (.int (zi ov)), some (.int (zi bt)), some (.int (zi k))] [] hq192 _
                  have sq192 := gSs.tr sq178 xq192 (by decide)
                  have s193 := (xq192.2.2.2.2.2 m 67 (by rw [tm]; decide)).trans s179
                  have s194 := (xq192.2.2.2.2.2 m 64 (by rw [tm]; decide)).trans s180
                  have s195 := (xq192.2.2.2.2.2 m 52 (by rw [tm]; decide)).trans s181
                  have s196 := (xq192.2.2.2.2.2 m 63 (by rw [tm]; decide)).trans s182
                  have s197 := (xq192.2.2.2.2.2 m 74 (by rw [tm]; decide)).trans efq178_3
                  have pr198 := gRn.fr xq192.2 (by decide) pr183
                  have pr199 := gTk.fr xq192.2 (by decide) (by decide) htk186
                  have pr200 := gTk.fr xq192.2 (by decide) (by decide) htk191
                  refine gz_s 1 (pc' := 161) (L' := [some (.ref m), some (.int (zi a)), some (.int (zi b)), some (.int (zi ov)), some (.int (zi bt)), some (.int (zi k))]) (S' := []) rfl ?_
                  have htk201 := gTk.imp (Q := 0 < b) (fun _ => trivial) pr200
                  have hK : ewK ek0 ek1 iv a b ov bt cf sg (k + 1).toNat = ((eeFi (ewS ek0) eeN bt ov z176 lv ((ewK ek0 ek1 iv a b ov bt cf sg (k).toNat).2)).1, eeOt (ewS ek1) eeN bt cf ((64 * k) + 1).toNat (b - 1 + 1).toNat ((eeFi (ewS ek0) eeN bt ov z176 lv ((ewK ek0 ek1 iv a b ov bt cf sg (k).toNat).2)).2)) := by
                    rw [hbn]
                    exact ewK_s (P := (lv, (ewK ek0 ek1 iv a b ov bt cf sg (k).toNat).2)) (F := (eeFi (ewS ek0) eeN bt ov z176 lv ((ewK ek0 ek1 iv a b ov bt cf sg (k).toNat).2))) ((ewI_n (by omega) (by intro w; rcases w with ⟨w1, w2, w3⟩; first | omega | exact absurd w3 (by assumption))).trans (by rw [show lv = (ewK ek0 ek1 iv a b ov bt cf sg (k).toNat).1 by omega])) (ite2_1 (by omega) (by rw [hcv])) (ite3_2 (by omega) (by omega) (by rw [hKF, hi2]))
                  have hK1 : (ewK ek0 ek1 iv a b ov bt cf sg (k + 1).toNat).1 = (eeFi (ewS ek0) eeN bt ov z176 lv ((ewK ek0 ek1 iv a b ov bt cf sg (k).toNat).2)).1 := by rw [hK]
                  have hk202 : (ewK ek0 ek1 iv a b ov bt cf sg (k + 1).toNat).2 = eeOt (ewS ek1) eeN bt cf ((64 * k) + 1).toNat (b - 1 + 1).toNat ((eeFi (ewS ek0) eeN bt ov z176 lv ((ewK ek0 ek1 iv a b ov bt cf sg (k).toNat).2)).2) := by rw [hK]
                  have hk202_1 : ((ewK ek0 ek1 iv a b ov bt cf sg (k + 1).toNat).2).1 = (eeOt (ewS ek1) eeN bt cf ((64 * k) + 1).toNat (b - 1 + 1).toNat ((eeFi (ewS ek0) eeN bt ov z176 lv ((ewK ek0 ek1 iv a b ov bt cf sg (k).toNat).2)).2)).1 := by rw [hk202]
                  have hk202_21 : ((ewK ek0 ek1 iv a b ov bt cf sg (k + 1).toNat).2).2.1 = (eeOt (ewS ek1) eeN bt cf ((64 * k) + 1).toNat (b - 1 + 1).toNat ((eeFi (ewS ek0) eeN bt ov z176 lv ((ewK ek0 ek1 iv a b ov bt cf sg (k).toNat).2)).2)).2.1 := by rw [hk202]
                  have hk202_221 : ((ewK ek0 ek1 iv a b ov bt cf sg (k + 1).toNat).2).2.2.1 = (eeOt (ewS ek1) eeN bt cf ((64 * k) + 1).toNat (b - 1 + 1).toNat ((eeFi (ewS ek0) eeN bt ov z176 lv ((ewK ek0 ek1 iv a b ov bt cf sg (k).toNat).2)).2)).2.2.1 := by rw [hk202]
                  have hso203 : gSO ty ((ewK ek0 ek1 iv a b ov bt cf sg (k + 1).toNat).2) hq192 := by rw [hk202]; exact yq192_0
                  have hok204 : eeOk ((ewK ek0 ek1 iv a b ov bt cf sg (k + 1).toNat).2) := by rw [hk202]; exact yq192_1
                  have hok204c := hok204.cur
                  refine gy_s 2 (pc' := 8) (L' := [some (.ref m), some (.int (zi a)), some (.int (zi b)), some (.int (zi ov)), some (.int (zi bt)), some (.int ((zi k) + zi 1))]) (S' := []) (L2 := [some (.ref m), some (.int (zi a)), some (.int (zi b)), some (.int (zi ov)), some (.int (zi bt)), some (.int (zi (k + 1)))]) (S2 := []) rfl (by simp only [zi_add, zi_sub, zi_mul, zi_neg, zi_and1, zi_and7, zi_and15, zi_and31, zi_and255]) (by simp only [zi_add, zi_sub, zi_mul, zi_neg, zi_and1, zi_and7, zi_and15, zi_and31, zi_and255]) ?_
                  exact gz_wk (ihlp12 hq192 (k + 1) fq192_0 fq192_1 fq192_2 fq178_3 (by omega) sq192 (by omega) (by omega) (by omega) (by omega) (by omega) (by omega) (by omega) (by omega) (by omega) (by omega) (by omega) (by omega) s193 s194 s195 efq192_0 efq192_1 efq192_2 s197 pr198 pr199 htk201 hso203 hok204) (gLw.s (gLw.s (gLw.s (gLw.s (gLw.s (gLw.s gLw.z))))))
            · refine gy_ifF rfl (by decide) (by decide) (by omega) hc144 ?_
              refine gz_s 2 (pc' := 41) (L' := [some (.ref m), some (.int (zi a)), some (.int (zi b)), some (.int (zi ov)), some (.int (zi bt)), some (.int (zi k))]) (S' := [.int (zi 0), .ref m]) rfl ?_
              refine gs_put rfl (by decide) rfl sh16 tm rfl rfl rfl rfl (Or.inl rfl) (by decide) (by omega) (by omega) (fun h205 sh205 eh205 fh205 => ?_)
              have pr206 := gRn.pt fh205 tm (by decide) lp12k7
              have pr207 := gTk.pt fh205 tm (by decide) (by decide) lp12k8
              have pr208 := gTk.pt fh205 tm (by decide) (by decide) lp12k9
              have pr209 := gSO.pt fh205 tm (by decide) lp12k10
              have s210 := (fh205 m 67 (fun q => absurd q.2 (by decide))).trans lp12k0
              have s211 := (fh205 m 64 (fun q => absurd q.2 (by decide))).trans lp12k1
              have s212 := (fh205 m 52 (fun q => absurd q.2 (by decide))).trans lp12k2
              have s213 := (fh205 m 59 (fun q => absurd q.2 (by decide))).trans lp12k3
              have s214 := (fh205 m 61 (fun q => absurd q.2 (by decide))).trans lp12k4
              have s215 := (fh205 m 62 (fun q => absurd q.2 (by decide))).trans lp12k5
              refine gz_s 1 (pc' := 45) (L' := [some (.ref m), some (.int (zi a)), some (.int (zi b)), some (.int (zi ov)), some (.int (zi bt)), some (.int (zi k))]) (S' := [.ref m]) rfl ?_
              refine gs_gtk rfl (by decide) rfl sh205.1 tm rfl rfl s210 ?_
              refine gy_ifF rfl (by decide) (by decide) (by omega) (by first | (simp [zc]; done) | (simp only [zc]; omega)) ?_
              refine gz_s 1 (pc' := 52) (L' := [some (.ref m), some (.int (zi a)), some (.int (zi b)), some (.int (zi ov)), some (.int (zi bt)), some (.int (zi k))]) (S' := [.ref m]) rfl ?_
              refine gz_call rfl (by decide) rfl (by decide) (by decide) (gcal_of rfl rfl rfl (Nat.le_of_ble_eq_true rfl) (gJ.recv (G := gGG) sh205.1 tm rfl rfl)) (mw_fillByte _ sh205.1 m tm wv s213 (by omega) uv s214 (by omega) bv s215 (by omega) ic s210 (by omega) ((ewK ek0 ek1 iv a b ov bt cf sg (k).toNat).2) (by omega) (by omega) (by omega) (by omega) uq pr209 lp12k11) (fun q216 _ wq216 => ?_)
              obtain ⟨pq216, oq216, hq216⟩ := q216
              obtain ⟨xq216, fq216_0, fq216_1, fq216_2, gq216, efq216_0, afq216_0, bfq216_0, efq216_1, afq216_1, bfq216_1, efq216_2, afq216_2, bfq216_2, uq216_0, uq216_1, uq216_2, uq216_3, uq216_4, uq216_5, yq216_0, yq216_1⟩ := wq216
              refine ⟨_, gq216, ?_⟩
              show gz gPP gGG gcn _ _ 55 [some (.ref m), some (.int (zi a)), some (.int (zi b)), some (.int (zi ov)), some (.int (zi bt)), some (.int (zi k))] [] hq216 _
              have sq216 := gSs.tr sh205 xq216 (by decide)
              have s217 := (xq216.2.2.2.2.2 m 67 (by rw [tm]; decide)).trans s210
              have s218 := (xq216.2.2.2.2.2 m 64 (by rw [tm]; decide)).trans s211
              have s219 := (xq216.2.2.2.2.2 m 52 (by rw [tm]; decide)).trans s212
              have s220 := (xq216.2.2.2.2.2 m 74 (by rw [tm]; decide)).trans eh205
              have pr221 := gRn.fr xq216.2 (by decide) pr206
              have pr222 := gTk.fr xq216.2 (by decide) (by decide) pr207
              have pr223 := gTk.fr xq216.2 (by decide) (by decide) pr208
              refine gz_s 4 (pc' := 62) (L' := [some (.ref m), some (.int (zi a)), some (.int (zi b)), some (.int (zi ov)), some (.int (zi bt)), some (.int (zi k))]) (S' := [.ref m, .int (zi k), .int (zi 208), .ref m]) rfl ?_
              refine gs_gtk rfl (by decide) rfl sq216.1 tm rfl rfl s219 ?_
              refine gy_div rfl (by decide) (by omega) (by omega) ?_
              have hd224 := zd_f (x := k) (y := iv) (by omega) (by omega)
              have hdv1 := e_div1 (b := k) (iv := iv) (by omega) (by omega) (by first | assumption | exact Decidable.not_not.mp (by assumption))
              refine gy_s 3 (pc' := 70) (L' := [some (.ref m), some (.int (zi a)), some (.int (zi b)), some (.int (zi ov)), some (.int (zi bt)), some (.int (zi k))]) (S' := [.int (zi 8), .int ((zi (k / iv)) - (zi 1)), .int (zi 208), .ref m]) (L2 := [some (.ref m), some (.int (zi a)), some (.int (zi b)), some (.int (zi ov)), some (.int (zi bt)), some (.int (zi k))]) (S2 := [.int (zi 8), .int (zi ((k / iv) - 1)), .int (zi 208), .ref m]) rfl (by simp only [zi_add, zi_sub, zi_mul, zi_neg, zi_and1, zi_and7, zi_and15, zi_and31, zi_and255]) (by simp only [zi_add, zi_sub, zi_mul, zi_neg, zi_and1, zi_and7, zi_and15, zi_and31, zi_and255]) ?_
              refine gy_rem rfl (by decide) (by omega) (by omega) ?_
              refine gy_s 1 (pc' := 72) (L' := [some (.ref m), some (.int (zi a)), some (.int (zi b)), some (.int (zi ov)), some (.int (zi bt)), some (.int (zi k))]) (S' := [.int ((zi 208) + (zi (((k / iv) - 1) % 8))), .ref m]) (L2 := [some (.ref m), some (.int (zi a)), some (.int (zi b)), some (.int (zi ov)), some (.int (zi bt)), some (.int (zi k))]) (S2 := [.int (zi (208 + (((k / iv) - 1) % 8))), .ref m]) rfl (by simp only [zi_add, zi_sub, zi_mul, zi_neg, zi_and1, zi_and7, zi_and15, zi_and31, zi_and255]) (by simp only [zi_add, zi_sub, zi_mul, zi_neg, zi_and1, zi_and7, zi_and15, zi_and31, zi_and255]) ?_
              refine gz_call rfl (by decide) rfl (by decide) (by decide) (gcal_of rfl rfl rfl (Nat.le_of_ble_eq_true rfl) (gJ.recv (G := gGG) sq216.1 tm rfl rfl)) (mw_putMarker _ sq216.1 m tm (208 + (((k / iv) - 1) % 8)) (by omega) fq216_0 efq216_0 (by omega) (eeF ((ewK ek0 ek1 iv a b ov bt cf sg (k).toNat).2)) (by omega) uq yq216_0 yq216_1) (fun q225 _ wq225 => ?_)
              obtain ⟨pq225, oq225, hq225⟩ := q225
              obtain ⟨xq225, fq225_0, gq225, efq225_0, afq225_0, bfq225_0, uq225_0, uq225_1, uq225_2, uq225_3, yq225_0, yq225_1⟩ := wq225
              refine ⟨_, gq225, ?_⟩
              show gz gPP gGG gcn _ _ 75 [some (.ref m), some (.int (zi a)), some (.int (zi b)), some (.int (zi ov)), some (.int (zi bt)), some (.int (zi k))] [] hq225 _
              have sq225 := gSs.tr sq216 xq225 (by decide)
              have s226 := (xq225.2.2.2.2.2 m 67 (by rw [tm]; decide)).trans s217
              have s227 := (xq225.2.2.2.2.2 m 64 (by rw [tm]; decide)).trans s218
              have s228 := (xq225.2.2.2.2.2 m 52 (by rw [tm]; decide)).trans s219
              have s229 := (xq225.2.2.2.2.2 m 74 (by rw [tm]; decide)).trans s220
              have s230 := (xq225.2.2.2.2.2 m 61 (by rw [tm]; decide)).trans efq216_1
              have s231 := (xq225.2.2.2.2.2 m 62 (by rw [tm]; decide)).trans efq216_2
              have pr232 := gRn.fr xq225.2 (by decide) pr221
              have pr233 := gTk.fr xq225.2 (by decide) (by decide) pr222
              have pr234 := gTk.fr xq225.2 (by decide) (by decide) pr223
              refine gz_s 1 (pc' := 76) (L' := [some (.ref m), some (.int (zi a)), some (.int (zi b)), some (.int (zi ov)), some (.int (zi bt)), some (.int (zi k))]) (S' := [.int (zi a)]) rfl ?_
              by_cases hc235 : ¬ (a : Int) = 0
              · refine gy_ifT (pc' := 96) rfl (by decide) (by decide) (by omega) hc235 ?_
                refine gz_s 1 (pc' := 97) (L' := [some (.ref m), some (.int (zi a)), some (.int (zi b)), some (.int (zi ov)), some (.int (zi bt)), some (.int (zi k))]) (S' := [.int (zi a)]) rfl ?_
                refine gy_ifT (pc' := 120) rfl (by decide) (by decide) (by omega) (by first | (simp [zc]; done) | (simp only [zc]; omega)) ?_
                refine gz_s 1 (pc' := 121) (L' := [some (.ref m), some (.int (zi a)), some (.int (zi b)), some (.int (zi ov)), some (.int (zi bt)), some (.int (zi k))]) (S' := [.int (zi a)]) rfl ?_
                refine gy_ifF rfl (by decide) (by decide) (by omega) (by first | (simp [zc]; done) | (simp only [zc]; omega)) ?_
                refine gz_s 1 (pc' := 125) (L' := [some (.ref m), some (.int (zi a)), some (.int (zi b)), some (.int (zi ov)), some (.int (zi bt)), some (.int (zi k))]) (S' := [.int (zi ov)]) rfl ?_
                by_cases hc236 : ¬ (ov : Int) = 0
                · refine gy_ifT (pc' := 144) rfl (by decide) (by decide) (by omega) hc236 ?_
                  refine gz_s 1 (pc' := 145) (L' := [some (.ref m), some (.int (zi a)), some (.int (zi b)), some (.int (zi ov)), some (.int (zi bt)), some (.int (zi k))]) (S' := [.int (zi a)]) rfl ?_
                  refine gy_ifF rfl (by decide) (by decide) (by omega) (by first | (simp [zc]; done) | (simp only [zc]; omega)) ?_
                  have htk237 := gTk.imp (Q := True) (fun _ => by omega) pr234
                  have hKF : (if 1 ≤ a then a else 1) = a := if_pos (by omega)
                  refine gy_s 7 (pc' := 158) (L' := [some (.ref m), some (.int (zi a)), some (.int (zi b)), some (.int (zi ov)), some (.int (zi bt)), some (.int (zi k))]) (S' := [.int (zi bt), .int (zi b), .int (zi a), .int ((zi 64) * (zi k)), .ref m]) (L2 := [some (.ref m), some (.int (zi a)), some (.int (zi b)), some (.int (zi ov)), some (.int (zi bt)), some (.int (zi k))]) (S2 := [.int (zi bt), .int (zi b), .int (zi a), .int (zi (64 * k)), .ref m]) rfl (by simp only [zi_add, zi_sub, zi_mul, zi_neg, zi_and1, zi_and7, zi_and15, zi_and31, zi_and255]) (by simp only [zi_add, zi_sub, zi_mul, zi_neg, zi_and1, zi_and7, zi_and15, zi_and31, zi_and255]) ?_
                  refine gz_call rfl (by decide) rfl (by decide) (by decide) (gcal_of rfl rfl rfl (Nat.le_of_ble_eq_true rfl) (gJ.recv (G := gGG) sq225.1 tm rfl rfl)) (mw_putMore _ sq225.1 m tm (64 * k) (by omega) a (by omega) b (by omega) bt (by omega) fq225_0 efq225_0 (by omega) fq216_1 s230 (by omega) fq216_2 s231 (by omega) ic s226 (by omega) mb s227 (by omega) cf (eeM (eeF ((ewK ek0 ek1 iv a b ov bt cf sg (k).toNat).2)) (208 + (((k / iv) - 1) % 8))) ek1 (by omega) (by omega) (by omega) (by omega) (by omega) (by omega) uq yq225_0 yq225_1 htk237 pr232) (fun q238 _ wq238 => ?_)
                  obtain ⟨pq238, oq238, hq238⟩ := q238
                  obtain ⟨xq238, fq238_0, fq238_1, fq238_2, gq238, efq238_0, afq238_0, bfq238_0, efq238_1, afq238_1, bfq238_1, efq238_2, afq238_2, bfq238_2, uq238_0, uq238_1, uq238_2, uq238_3, uq238_4, yq238_0, yq238_1⟩ := wq238
                  refine ⟨_, gq238, ?_⟩
                  show gz gPP gGG gcn _ _ 161 [some (.ref m), some (.int (zi a)), some (.int (zi b)), some (.int (zi ov)), some (.int (zi bt)), some (.int (zi k))] [] hq238 _
                  have sq238 := gSs.tr sq225 xq238 (by decide)
                  have s239 := (xq238.2.2.2.2.2 m 67 (by rw [tm]; decide)).trans s226
                  have s240 := (xq238.2.2.2.2.2 m 64 (by rw [tm]; decide)).trans s227
                  have s241 := (xq238.2.2.2.2.2 m 52 (by rw [tm]; decide)).trans s228
                  have s242 := (xq238.2.2.2.2.2 m 74 (by rw [tm]; decide)).trans s229
                  have pr243 := gRn.fr xq238.2 (by decide) pr232
                  have pr244 := gTk.fr xq238.2 (by decide) (by decide) pr233
                  have pr245 := gTk.fr xq238.2 (by decide) (by decide) htk237
                  have htk246 := gTk.imp (Q := 0 < b) (fun _ => trivial) pr245
                  have hK : ewK ek0 ek1 iv a b ov bt cf sg (k + 1).toNat = ((0, eeM (eeF ((ewK ek0 ek1 iv a b ov bt cf sg (k).toNat).2)) (208 + (((k / iv) - 1) % 8))).1, eeRz (ewS ek1) eeN bt cf (64 * k) a b (eeM (eeF ((ewK ek0 ek1 iv a b ov bt cf sg (k).toNat).2)) (208 + (((k / iv) - 1) % 8)))) := by
                    rw [hbn]
                    exact ewK_s (P := (0, eeM (eeF ((ewK ek0 ek1 iv a b ov bt cf sg (k).toNat).2)) (208 + (((k / iv) - 1) % 8)))) (F := (0, eeM (eeF ((ewK ek0 ek1 iv a b ov bt cf sg (k).toNat).2)) (208 + (((k / iv) - 1) % 8)))) ((ewI_y (by omega) (by omega) (by first | assumption | exact Decidable.not_not.mp (by assumption))).trans (by rw [(by omega : (((k).toNat : Nat) : Int) = k)])) (ite2_2 (by omega) rfl) (ite3_1 ⟨by omega, by omega⟩ (by unfold eeRz; rw [hi1]))
                  have hK1 : (ewK ek0 ek1 iv a b ov bt cf sg (k + 1).toNat).1 = (0, eeM (eeF ((ewK ek0 ek1 iv a b ov bt cf sg (k).toNat).2)) (208 + (((k / iv) - 1) % 8))).1 := by rw [hK]
                  have hK2 : (0, eeM (eeF ((ewK ek0 ek1 iv a b ov bt cf sg (k).toNat).2)) (208 + (((k / iv) - 1) % 8))).1 = 0 := rfl
                  have hk247 : (ewK ek0 ek1 iv a b ov bt cf sg (k + 1).toNat).2 = eeRz (ewS ek1) eeN bt cf (64 * k) a b (eeM (eeF ((ewK ek0 ek1 iv a b ov bt cf sg (k).toNat).2)) (208 + (((k / iv) - 1) % 8))) := by rw [hK]
                  have hk247_1 : ((ewK ek0 ek1 iv a b ov bt cf sg (k + 1).toNat).2).1 = (eeRz (ewS ek1) eeN bt cf (64 * k) a b (eeM (eeF ((ewK ek0 ek1 iv a b ov bt cf sg (k).toNat).2)) (208 + (((k / iv) - 1) % 8)))).1 := by rw [hk247]
                  have hk247_21 : ((ewK ek0 ek1 iv a b ov bt cf sg (k + 1).toNat).2).2.1 = (eeRz (ewS ek1) eeN bt cf (64 * k) a b (eeM (eeF ((ewK ek0 ek1 iv a b ov bt cf sg (k).toNat).2)) (208 + (((k / iv) - 1) % 8)))).2.1 := by rw [hk247]
                  have hk247_221 : ((ewK ek0 ek1 iv a b ov bt cf sg (k + 1).toNat).2).2.2.1 = (eeRz (ewS ek1) eeN bt cf (64 * k) a b (eeM (eeF ((ewK ek0 ek1 iv a b ov bt cf sg (k).toNat).2)) (208 + (((k / iv) - 1) % 8)))).2.2.1 := by rw [hk247]
                  have hso248 : gSO ty ((ewK ek0 ek1 iv a b ov bt cf sg (k + 1).toNat).2) hq238 := by rw [hk247]; exact yq238_0
                  have hok249 : eeOk ((ewK ek0 ek1 iv a b ov bt cf sg (k + 1).toNat).2) := by rw [hk247]; exact yq238_1
                  have hok249c := hok249.cur
                  refine gy_s 2 (pc' := 8) (L' := [some (.ref m), some (.int (zi a)), some (.int (zi b)), some (.int (zi ov)), some (.int (zi bt)), some (.int ((zi k) + zi 1))]) (S' := []) (L2 := [some (.ref m), some (.int (zi a)), some (.int (zi b)), some (.int (zi ov)), some (.int (zi bt)), some (.int (zi (k + 1)))]) (S2 := []) rfl (by simp only [zi_add, zi_sub, zi_mul, zi_neg, zi_and1, zi_and7, zi_and15, zi_and31, zi_and255]) (by simp only [zi_add, zi_sub, zi_mul, zi_neg, zi_and1, zi_and7, zi_and15, zi_and31, zi_and255]) ?_
                  exact gz_wk (ihlp12 hq238 (k + 1) fq238_0 fq238_1 fq238_2 0 (by omega) sq238 (by omega) (by omega) (by omega) (by omega) (by omega) (by omega) (by omega) (by omega) (by omega) (by omega) (by omega) (by omega) s239 s240 s241 efq238_0 efq238_1 efq238_2 s242 pr243 pr244 htk246 hso248 hok249) (gLw.s (gLw.s (gLw.s (gLw.s (gLw.s (gLw.s gLw.z))))))
                · refine gy_ifF rfl (by decide) (by decide) (by omega) hc236 ?_
                  have htk250 := gTk.imp (Q := True) (fun _ => by omega) pr234
                  have hKF : (if 1 ≤ a then a else 1) = a := if_pos (by omega)
                  refine gy_s 7 (pc' := 138) (L' := [some (.ref m), some (.int (zi a)), some (.int (zi b)), some (.int (zi ov)), some (.int (zi bt)), some (.int (zi k))]) (S' := [.int (zi bt), .int (zi b), .int (zi a), .int ((zi 64) * (zi k)), .ref m]) (L2 := [some (.ref m), some (.int (zi a)), some (.int (zi b)), some (.int (zi ov)), some (.int (zi bt)), some (.int (zi k))]) (S2 := [.int (zi bt), .int (zi b), .int (zi a), .int (zi (64 * k)), .ref m]) rfl (by simp only [zi_add, zi_sub, zi_mul, zi_neg, zi_and1, zi_and7, zi_and15, zi_and31, zi_and255]) (by simp only [zi_add, zi_sub, zi_mul, zi_neg, zi_and1, zi_and7, zi_and15, zi_and31, zi_and255]) ?_
                  refine gz_call rfl (by decide) rfl (by decide) (by decide) (gcal_of rfl rfl rfl (Nat.le_of_ble_eq_true rfl) (gJ.recv (G := gGG) sq225.1 tm rfl rfl)) (mw_putOthers _ sq225.1 m tm (64 * k) (by omega) a (by omega) b (by omega) bt (by omega) fq225_0 efq225_0 (by omega) fq216_1 s230 (by omega) fq216_2 s231 (by omega) ic s226 (by omega) mb s227 (by omega) cf (eeM (eeF ((ewK ek0 ek1 iv a b ov bt cf sg (k).toNat).2)) (208 + (((k / iv) - 1) % 8))) ek1 (by omega) (by omega) (by omega) (by omega) (by omega) (by omega) uq yq225_0 yq225_1 htk250 pr232) (fun q251 _ wq251 => ?_)
                  obtain ⟨pq251, oq251, hq251⟩ := q251
                  obtain ⟨xq251, fq251_0, fq251_1, fq251_2, gq251, efq251_0, afq251_0, bfq251_0, efq251_1, afq251_1, bfq251_1, efq251_2, afq251_2, bfq251_2, uq251_0, uq251_1, uq251_2, uq251_3, uq251_4, yq251_0, yq251_1⟩ := wq251
                  refine ⟨_, gq251, ?_⟩
                  show gz gPP gGG gcn _ _ 141 [some (.ref m), some (.int (zi a)), some (.int (zi b)), some (.int (zi ov)), some (.int (zi bt)), some (.int (zi k))] [] hq251 _
                  have sq251 := gSs.tr sq225 xq251 (by decide)
                  have s252 := (xq251.2.2.2.2.2 m 67 (by rw [tm]; decide)).trans s226
                  have s253 := (xq251.2.2.2.2.2 m 64 (by rw [tm]; decide)).trans s227
                  have s254 := (xq251.2.2.2.2.2 m 52 (by rw [tm]; decide)).trans s228
                  have s255 := (xq251.2.2.2.2.2 m 74 (by rw [tm]; decide)).trans s229
                  have pr256 := gRn.fr xq251.2 (by decide) pr232
                  have pr257 := gTk.fr xq251.2 (by decide) (by decide) pr233
                  have pr258 := gTk.fr xq251.2 (by decide) (by decide) htk250
                  refine gz_s 1 (pc' := 161) (L' := [some (.ref m), some (.int (zi a)), some (.int (zi b)), some (.int (zi ov)), some (.int (zi bt)), some (.int (zi k))]) (S' := []) rfl ?_
                  have htk259 := gTk.imp (Q := 0 < b) (fun _ => trivial) pr258
                  have hK : ewK ek0 ek1 iv a b ov bt cf sg (k + 1).toNat = ((0, eeM (eeF ((ewK ek0 ek1 iv a b ov bt cf sg (k).toNat).2)) (208 + (((k / iv) - 1) % 8))).1, eeOt (ewS ek1) eeN bt cf ((64 * k) + a).toNat (b - a + 1).toNat (eeM (eeF ((ewK ek0 ek1 iv a b ov bt cf sg (k).toNat).2)) (208 + (((k / iv) - 1) % 8)))) := by
                    rw [hbn]
                    exact ewK_s (P := (0, eeM (eeF ((ewK ek0 ek1 iv a b ov bt cf sg (k).toNat).2)) (208 + (((k / iv) - 1) % 8)))) (F := (0, eeM (eeF ((ewK ek0 ek1 iv a b ov bt cf sg (k).toNat).2)) (208 + (((k / iv) - 1) % 8)))) ((ewI_y (by omega) (by omega) (by first | assumption | exact Decidable.not_not.mp (by assumption))).trans (by rw [(by omega : (((k).toNat : Nat) : Int) = k)])) (ite2_2 (by omega) rfl) (ite3_2 (by omega) (by omega) (by rw [hKF, hi1]))
                  have hK1 : (ewK ek0 ek1 iv a b ov bt cf sg (k + 1).toNat).1 = (0, eeM (eeF ((ewK ek0 ek1 iv a b ov bt cf sg (k).toNat).2)) (208 + (((k / iv) - 1) % 8))).1 := by rw [hK]
                  have hK2 : (0, eeM (eeF ((ewK ek0 ek1 iv a b ov bt cf sg (k).toNat).2)) (208 + (((k / iv) - 1) % 8))).1 = 0 := rfl
                  have hk260 : (ewK ek0 ek1 iv a b ov bt cf sg (k + 1).toNat).2 = eeOt (ewS ek1) eeN bt cf ((64 * k) + a).toNat (b - a + 1).toNat (eeM (eeF ((ewK ek0 ek1 iv a b ov bt cf sg (k).toNat).2)) (208 + (((k / iv) - 1) % 8))) := by rw [hK]
                  have hk260_1 : ((ewK ek0 ek1 iv a b ov bt cf sg (k + 1).toNat).2).1 = (eeOt (ewS ek1) eeN bt cf ((64 * k) + a).toNat (b - a + 1).toNat (eeM (eeF ((ewK ek0 ek1 iv a b ov bt cf sg (k).toNat).2)) (208 + (((k / iv) - 1) % 8)))).1 := by rw [hk260]
                  have hk260_21 : ((ewK ek0 ek1 iv a b ov bt cf sg (k + 1).toNat).2).2.1 = (eeOt (ewS ek1) eeN bt cf ((64 * k) + a).toNat (b - a + 1).toNat (eeM (eeF ((ewK ek0 ek1 iv a b ov bt cf sg (k).toNat).2)) (208 + (((k / iv) - 1) % 8)))).2.1 := by rw [hk260]
                  have hk260_221 : ((ewK ek0 ek1 iv a b ov bt cf sg (k + 1).toNat).2).2.2.1 = (eeOt (ewS ek1) eeN bt cf ((64 * k) + a).toNat (b - a + 1).toNat (eeM (eeF ((ewK ek0 ek1 iv a b ov bt cf sg (k).toNat).2)) (208 + (((k / iv) - 1) % 8)))).2.2.1 := by rw [hk260]
                  have hso261 : gSO ty ((ewK ek0 ek1 iv a b ov bt cf sg (k + 1).toNat).2) hq251 := by rw [hk260]; exact yq251_0
                  have hok262 : eeOk ((ewK ek0 ek1 iv a b ov bt cf sg (k + 1).toNat).2) := by rw [hk260]; exact yq251_1
                  have hok262c := hok262.cur
                  refine gy_s 2 (pc' := 8) (L' := [some (.ref m), some (.int (zi a)), some (.int (zi b)), some (.int (zi ov)), some (.int (zi bt)), some (.int ((zi k) + zi 1))]) (S' := []) (L2 := [some (.ref m), some (.int (zi a)), some (.int (zi b)), some (.int (zi ov)), some (.int (zi bt)), some (.int (zi (k + 1)))]) (S2 := []) rfl (by simp only [zi_add, zi_sub, zi_mul, zi_neg, zi_and1, zi_and7, zi_and15, zi_and31, zi_and255]) (by simp only [zi_add, zi_sub, zi_mul, zi_neg, zi_and1, zi_and7, zi_and15, zi_and31, zi_and255]) ?_
                  exact gz_wk (ihlp12 hq251 (k + 1) fq251_0 fq251_1 fq251_2 0 (by omega) sq251 (by omega) (by omega) (by omega) (by omega) (by omega) (by omega) (by omega) (by omega) (by omega) (by omega) (by omega) (by omega) s252 s253 s254 efq251_0 efq251_1 efq251_2 s255 pr256 pr257 htk259 hso261 hok262) (gLw.s (gLw.s (gLw.s (gLw.s (gLw.s (gLw.s gLw.z))))))
              · refine gy_ifF rfl (by decide) (by decide) (by omega) hc235 ?_
                have htk263 := gTk.imp (Q := ov = 0) (fun w => ⟨by omega, w⟩) pr233
                refine gz_s 2 (pc' := 81) (L' := [some (.ref m), some (.int (zi a)), some (.int (zi b)), some (.int (zi ov)), some (.int (zi bt)), some (.int (zi k))]) (S' := [.ref m, .ref m]) rfl ?_
                refine gs_gtr rfl (by decide) rfl sq225.1 tm rfl rfl rfl (fun c264 ec264 tc264 => ?_)
                refine gy_s 3 (pc' := 89) (L' := [some (.ref m), some (.int (zi a)), some (.int (zi b)), some (.int (zi ov)), some (.int (zi bt)), some (.int (zi k))]) (S' := [.int ((zi 64) * (zi k)), .ref c264, .ref m]) (L2 := [some (.ref m), some (.int (zi a)), some (.int (zi b)), some (.int (zi ov)), some (.int (zi bt)), some (.int (zi k))]) (S2 := [.int (zi (64 * k)), .ref c264, .ref m]) rfl (by simp only [zi_add, zi_sub, zi_mul, zi_neg, zi_and1, zi_and7, zi_and15, zi_and31, zi_and255]) (by simp only [zi_add, zi_sub, zi_mul, zi_neg, zi_and1, zi_and7, zi_and15, zi_and31, zi_and255]) ?_
                have hl265 : 1024 ≤ hq225.2.2.2.1 c264 ∧ hq225.2.2.2.1 c264 ≤ 1024 := gJ.rowl (G := gGG) sq225.1 tc264 rfl
                refine gs_ald rfl (by decide) sq225.1 tc264 rfl rfl rfl (by decide) (fun _ => rfl) (by omega) (by omega) (fun z266 ez266 az266 bz266 => ?_)
                have hf267 := gRn.at (i := 64 * k) (z := z266) pr232 tc264 ez266 (by omega) (by omega) (by omega)
                have hcv : cf (64 * (k).toNat) = z266 := by rw [← hi0]; exact hf267
                refine gz_s 2 (pc' := 93) (L' := [some (.ref m), some (.int (zi a)), some (.int (zi b)), some (.int (zi ov)), some (.int (zi bt)), some (.int (zi k))]) (S' := [.int (zi bt), .int (zi ov), .int (zi z266), .ref m]) rfl ?_
                refine gz_call rfl (by decide) rfl (by decide) (by decide) (gcal_of rfl rfl rfl (Nat.le_of_ble_eq_true rfl) (gJ.recv (G := gGG) sq225.1 tm rfl rfl)) (mw_putFirst _ sq225.1 m tm z266 (by omega) ov (by omega) bt (by omega) fq225_0 efq225_0 (by omega) fq216_1 s230 (by omega) fq216_2 s231 (by omega) ic s226 (by omega) 0 s229 (by omega) (eeM (eeF ((ewK ek0 ek1 iv a b ov bt cf sg (k).toNat).2)) (208 + (((k / iv) - 1) % 8))) ek0 (by omega) (by omega) (by omega) (by omega) uq yq225_0 yq225_1 htk263) (fun q268 _ wq268 => ?_)
                obtain ⟨pq268, oq268, hq268⟩ := q268
                obtain ⟨xq268, fq268_0, fq268_1, fq268_2, fq268_3, gq268, efq268_0, afq268_0, bfq268_0, efq268_1, afq268_1, bfq268_1, efq268_2, afq268_2, bfq268_2, efq268_3, afq268_3, bfq268_3, uq268_0, uq268_1, uq268_2, uq268_3, uq268_4, uq268_5, yq268_0, yq268_1⟩ := wq268
                refine ⟨_, gq268, ?_⟩
                show gz gPP gGG gcn _ _ 96 [some (.ref m), some (.int (zi a)), some (.int (zi b)), some (.int (zi ov)), some (.int (zi bt)), some (.int (zi k))] [] hq268 _
                have sq268 := gSs.tr sq225 xq268 (by decide)
                have s269 := (xq268.2.2.2.2.2 m 67 (by rw [tm]; decide)).trans s226
                have s270 := (xq268.2.2.2.2.2 m 64 (by rw [tm]; decide)).trans s227
                have s271 := (xq268.2.2.2.2.2 m 52 (by rw [tm]; decide)).trans s228
                have s272 := (xq268.2.2.2.2.2 m 63 (by rw [tm]; decide)).trans ec264
                have pr273 := gRn.fr xq268.2 (by decide) pr232
                have pr274 := gTk.fr xq268.2 (by decide) (by decide) htk263
                have pr275 := gTk.fr xq268.2 (by decide) (by decide) pr234
                have htk276 := gTk.imp (Q := a = 0 ∧ ov = 0) (fun w => w.2) pr274
                refine gz_s 1 (pc' := 97) (L' := [some (.ref m), some (.int (zi a)), some (.int (zi b)), some (.int (zi ov)), some (.int (zi bt)), some (.int (zi k))]) (S' := [.int (zi a)]) rfl ?_
                refine gy_ifF rfl (by decide) (by decide) (by omega) (by first | (simp [zc]; done) | (simp only [zc]; omega)) ?_
                refine gz_s 1 (pc' := 101) (L' := [some (.ref m), some (.int (zi a)), some (.int (zi b)), some (.int (zi ov)), some (.int (zi bt)), some (.int (zi k))]) (S' := [.int (zi b)]) rfl ?_
                by_cases hc277 : (b : Int) ≤ 0
                · refine gy_ifT (pc' := 120) rfl (by decide) (by decide) (by omega) hc277 ?_
                  refine gz_s 1 (pc' := 121) (L' := [some (.ref m), some (.int (zi a)), some (.int (zi b)), some (.int (zi ov)), some (.int (zi bt)), some (.int (zi k))]) (S' := [.int (zi a)]) rfl ?_
                  refine gy_ifT (pc' := 144) rfl (by decide) (by decide) (by omega) (by first | (simp [zc]; done) | (simp only [zc]; omega)) ?_
                  refine gz_s 1 (pc' := 145) (L' := [some (.ref m), some (.int (zi a)), some (.int (zi b)), some (.int (zi ov)), some (.int (zi bt)), some (.int (zi k))]) (S' := [.int (zi a)]) rfl ?_
                  refine gy_ifT (pc' := 161) rfl (by decide) (by decide) (by omega) (by first | (simp [zc]; done) | (simp only [zc]; omega)) ?_
                  have hK : ewK ek0 ek1 iv a b ov bt cf sg (k + 1).toNat = ((eeFi (ewS ek0) eeN bt ov z266 0 (eeM (eeF ((ewK ek0 ek1 iv a b ov bt cf sg (k).toNat).2)) (208 + (((k / iv) - 1) % 8)))).1, (eeFi (ewS ek0) eeN bt ov z266 0 (eeM (eeF ((ewK ek0 ek1 iv a b ov bt cf sg (k).toNat).2)) (208 + (((k / iv) - 1) % 8)))).2) := by
                    rw [hbn]
                    exact ewK_s (P := (0, eeM (eeF ((ewK ek0 ek1 iv a b ov bt cf sg (k).toNat).2)) (208 + (((k / iv) - 1) % 8)))) (F := (eeFi (ewS ek0) eeN bt ov z266 0 (eeM (eeF ((ewK ek0 ek1 iv a b ov bt cf sg (k).toNat).2)) (208 + (((k / iv) - 1) % 8))))) ((ewI_y (by omega) (by omega) (by first | assumption | exact Decidable.not_not.mp (by assumption))).trans (by rw [(by omega : (((k).toNat : Nat) : Int) = k)])) (ite2_1 (by omega) (by rw [hcv])) (ite3_3 (by omega) (by omega) rfl)
                  have hK1 : (ewK ek0 ek1 iv a b ov bt cf sg (k + 1).toNat).1 = (eeFi (ewS ek0) eeN bt ov z266 0 (eeM (eeF ((ewK ek0 ek1 iv a b ov bt cf sg (k).toNat).2)) (208 + (((k / iv) - 1) % 8)))).1 := by rw [hK]
                  have hk278 : (ewK ek0 ek1 iv a b ov bt cf sg (k + 1).toNat).2 = (eeFi (ewS ek0) eeN bt ov z266 0 (eeM (eeF ((ewK ek0 ek1 iv a b ov bt cf sg (k).toNat).2)) (208 + (((k / iv) - 1) % 8)))).2 := by rw [hK]
                  have hk278_1 : ((ewK ek0 ek1 iv a b ov bt cf sg (k + 1).toNat).2).1 = ((eeFi (ewS ek0) eeN bt ov z266 0 (eeM (eeF ((ewK ek0 ek1 iv a b ov bt cf sg (k).toNat).2)) (208 + (((k / iv) - 1) % 8)))).2).1 := by rw [hk278]
                  have hk278_21 : ((ewK ek0 ek1 iv a b ov bt cf sg (k + 1).toNat).2).2.1 = ((eeFi (ewS ek0) eeN bt ov z266 0 (eeM (eeF ((ewK ek0 ek1 iv a b ov bt cf sg (k).toNat).2)) (208 + (((k / iv) - 1) % 8)))).2).2.1 := by rw [hk278]
                  have hk278_221 : ((ewK ek0 ek1 iv a b ov bt cf sg (k + 1).toNat).2).2.2.1 = ((eeFi (ewS ek0) eeN bt ov z266 0 (eeM (eeF ((ewK ek0 ek1 iv a b ov bt cf sg (k).toNat).2)) (208 + (((k / iv) - 1) % 8)))).2).2.2.1 := by rw [hk278]
                  have hso279 : gSO ty ((ewK ek0 ek1 iv a b ov bt cf sg (k + 1).toNat).2) hq268 := by rw [hk278]; exact yq268_0
                  have hok280 : eeOk ((ewK ek0 ek1 iv a b ov bt cf sg (k + 1).toNat).2) := by rw [hk278]; exact yq268_1
                  have hok280c := hok280.cur
                  refine gy_s 2 (pc' := 8) (L' := [some (.ref m), some (.int (zi a)), some (.int (zi b)), some (.int (zi ov)), some (.int (zi bt)), some (.int ((zi k) + zi 1))]) (S' := []) (L2 := [some (.ref m), some (.int (zi a)), some (.int (zi b)), some (.int (zi ov)), some (.int (zi bt)), some (.int (zi (k + 1)))]) (S2 := []) rfl (by simp only [zi_add, zi_sub, zi_mul, zi_neg, zi_and1, zi_and7, zi_and15, zi_and31, zi_and255]) (by simp only [zi_add, zi_sub, zi_mul, zi_neg, zi_and1, zi_and7, zi_and15, zi_and31, zi_and255]) ?_
                  exact gz_wk (ihlp12 hq268 (k + 1) fq268_0 fq268_1 fq268_2 fq268_3 (by omega) sq268 (by omega) (by omega) (by omega) (by omega) (by omega) (by omega) (by omega) (by omega) (by omega) (by omega) (by omega) (by omega) s269 s270 s271 efq268_0 efq268_1 efq268_2 efq268_3 pr273 htk276 pr275 hso279 hok280) (gLw.s (gLw.s (gLw.s (gLw.s (gLw.s (gLw.s gLw.z))))))
                · refine gy_ifF rfl (by decide) (by decide) (by omega) hc277 ?_
                  have htk281 := gTk.imp (Q := True) (fun _ => by omega) pr275
                  have hKF : (if 1 ≤ a then a else 1) = 1 := if_neg (by omega)
                  refine gy_s 7 (pc' := 114) (L' := [some (.ref m), some (.int (zi a)), some (.int (zi b)), some (.int (zi ov)), some (.int (zi bt)), some (.int (zi k))]) (S' := [.int (zi bt), .int (zi b), .int (zi 1), .int ((zi 64) * (zi k)), .ref m]) (L2 := [some (.ref m), some (.int (zi a)), some (.int (zi b)), some (.int (zi ov)), some (.int (zi bt)), some (.int (zi k))]) (S2 := [.int (zi bt), .int (zi b), .int (zi 1), .int (zi (64 * k)), .ref m]) rfl (by simp only [zi_add, zi_sub, zi_mul, zi_neg, zi_and1, zi_and7, zi_and15, zi_and31, zi_and255]) (by simp only [zi_add, zi_sub, zi_mul, zi_neg, zi_and1, zi_and7, zi_and15, zi_and31, zi_and255]) ?_
                  refine gz_call rfl (by decide) rfl (by decide) (by decide) (gcal_of rfl rfl rfl (Nat.le_of_ble_eq_true rfl) (gJ.recv (G := gGG) sq268.1 tm rfl rfl)) (mw_putOthers _ sq268.1 m tm (64 * k) (by omega) 1 (by omega) b (by omega) bt (by omega) fq268_0 efq268_0 (by omega) fq268_1 efq268_1 (by omega) fq268_2 efq268_2 (by omega) ic s269 (by omega) mb s270 (by omega) cf ((eeFi (ewS ek0) eeN bt ov z266 0 (eeM (eeF ((ewK ek0 ek1 iv a b ov bt cf sg (k).toNat).2)) (208 + (((k / iv) - 1) % 8)))).2) ek1 (by omega) (by omega) (by omega) (by omega) (by omega) (by omega) uq yq268_0 yq268_1 htk281 pr273) (fun q282 _ wq282 => ?_)
                  obtain ⟨pq282, oq282, hq282⟩ := q282
                  obtain ⟨xq282, fq282_0, fq282_1, fq282_2, gq282, efq282_0, afq282_0, bfq282_0, efq282_1, afq282_1, bfq282_1, efq282_2, afq282_2, bfq282_2, uq282_0, uq282_1, uq282_2, uq282_3, uq282_4, yq282_0, yq282_1⟩ := wq282
                  refine ⟨_, gq282, ?_⟩
                  show gz gPP gGG gcn _ _ 117 [some (.ref m), some (.int (zi a)), some (.int (zi b)), some (.int (zi ov)), some (.int (zi bt)), some (.int (zi k))] [] hq282 _
                  have sq282 := gSs.tr sq268 xq282 (by decide)
                  have s283 := (xq282.2.2.2.2.2 m 67 (by rw [tm]; decide)).trans s269
                  have s284 := (xq282.2.2.2.2.2 m 64 (by rw [tm]; decide)).trans s270
                  have s285 := (xq282.2.2.2.2.2 m 52 (by rw [tm]; decide)).trans s271
                  have s286 := (xq282.2.2.2.2.2 m 63 (by rw [tm]; decide)).trans s272
                  have s287 := (xq282.2.2.2.2.2 m 74 (by rw [tm]; decide)).trans efq268_3
                  have pr288 := gRn.fr xq282.2 (by decide) pr273
                  have pr289 := gTk.fr xq282.2 (by decide) (by decide) htk276
                  have pr290 := gTk.fr xq282.2 (by decide) (by decide) htk281
                  refine gz_s 1 (pc' := 161) (L' := [some (.ref m), some (.int (zi a)), some (.int (zi b)), some (.int (zi ov)), some (.int (zi bt)), some (.int (zi k))]) (S' := []) rfl ?_
                  have htk291 := gTk.imp (Q := 0 < b) (fun _ => trivial) pr290
                  have hK : ewK ek0 ek1 iv a b ov bt cf sg (k + 1).toNat = ((eeFi (ewS ek0) eeN bt ov z266 0 (eeM (eeF ((ewK ek0 ek1 iv a b ov bt cf sg (k).toNat).2)) (208 + (((k / iv) - 1) % 8)))).1, eeOt (ewS ek1) eeN bt cf ((64 * k) + 1).toNat (b - 1 + 1).toNat ((eeFi (ewS ek0) eeN bt ov z266 0 (eeM (eeF ((ewK ek0 ek1 iv a b ov bt cf sg (k).toNat).2)) (208 + (((k / iv) - 1) % 8)))).2)) := by
                    rw [hbn]
                    exact ewK_s (P := (0, eeM (eeF ((ewK ek0 ek1 iv a b ov bt cf sg (k).toNat).2)) (208 + (((k / iv) - 1) % 8)))) (F := (eeFi (ewS ek0) eeN bt ov z266 0 (eeM (eeF ((ewK ek0 ek1 iv a b ov bt cf sg (k).toNat).2)) (208 + (((k / iv) - 1) % 8))))) ((ewI_y (by omega) (by omega) (by first | assumption | exact Decidable.not_not.mp (by assumption))).trans (by rw [(by omega : (((k).toNat : Nat) : Int) = k)])) (ite2_1 (by omega) (by rw [hcv])) (ite3_2 (by omega) (by omega) (by rw [hKF, hi2]))
                  have hK1 : (ewK ek0 ek1 iv a b ov bt cf sg (k + 1).toNat).1 = (eeFi (ewS ek0) eeN bt ov z266 0 (eeM (eeF ((ewK ek0 ek1 iv a b ov bt cf sg (k).toNat).2)) (208 + (((k / iv) - 1) % 8)))).1 := by rw [hK]
                  have hk292 : (ewK ek0 ek1 iv a b ov bt cf sg (k + 1).toNat).2 = eeOt (ewS ek1) eeN bt cf ((64 * k) + 1).toNat (b - 1 + 1).toNat ((eeFi (ewS ek0) eeN bt ov z266 0 (eeM (eeF ((ewK ek0 ek1 iv a b ov bt cf sg (k).toNat).2)) (208 + (((k / iv) - 1) % 8)))).2) := by rw [hK]
                  have hk292_1 : ((ewK ek0 ek1 iv a b ov bt cf sg (k + 1).toNat).2).1 = (eeOt (ewS ek1) eeN bt cf ((64 * k) + 1).toNat (b - 1 + 1).toNat ((eeFi (ewS ek0) eeN bt ov z266 0 (eeM (eeF ((ewK ek0 ek1 iv a b ov bt cf sg (k).toNat).2)) (208 + (((k / iv) - 1) % 8)))).2)).1 := by rw [hk292]
                  have hk292_21 : ((ewK ek0 ek1 iv a b ov bt cf sg (k + 1).toNat).2).2.1 = (eeOt (ewS ek1) eeN bt cf ((64 * k) + 1).toNat (b - 1 + 1).toNat ((eeFi (ewS ek0) eeN bt ov z266 0 (eeM (eeF ((ewK ek0 ek1 iv a b ov bt cf sg (k).toNat).2)) (208 + (((k / iv) - 1) % 8)))).2)).2.1 := by rw [hk292]
                  have hk292_221 : ((ewK ek0 ek1 iv a b ov bt cf sg (k + 1).toNat).2).2.2.1 = (eeOt (ewS ek1) eeN bt cf ((64 * k) + 1).toNat (b - 1 + 1).toNat ((eeFi (ewS ek0) eeN bt ov z266 0 (eeM (eeF ((ewK ek0 ek1 iv a b ov bt cf sg (k).toNat).2)) (208 + (((k / iv) - 1) % 8)))).2)).2.2.1 := by rw [hk292]
                  have hso293 : gSO ty ((ewK ek0 ek1 iv a b ov bt cf sg (k + 1).toNat).2) hq282 := by rw [hk292]; exact yq282_0
                  have hok294 : eeOk ((ewK ek0 ek1 iv a b ov bt cf sg (k + 1).toNat).2) := by rw [hk292]; exact yq282_1
                  have hok294c := hok294.cur
                  refine gy_s 2 (pc' := 8) (L' := [some (.ref m), some (.int (zi a)), some (.int (zi b)), some (.int (zi ov)), some (.int (zi bt)), some (.int ((zi k) + zi 1))]) (S' := []) (L2 := [some (.ref m), some (.int (zi a)), some (.int (zi b)), some (.int (zi ov)), some (.int (zi bt)), some (.int (zi (k + 1)))]) (S2 := []) rfl (by simp only [zi_add, zi_sub, zi_mul, zi_neg, zi_and1, zi_and7, zi_and15, zi_and31, zi_and255]) (by simp only [zi_add, zi_sub, zi_mul, zi_neg, zi_and1, zi_and7, zi_and15, zi_and31, zi_and255]) ?_
                  exact gz_wk (ihlp12 hq282 (k + 1) fq282_0 fq282_1 fq282_2 fq268_3 (by omega) sq282 (by omega) (by omega) (by omega) (by omega) (by omega) (by omega) (by omega) (by omega) (by omega) (by omega) (by omega) (by omega) s283 s284 s285 efq282_0 efq282_1 efq282_2 s287 pr288 pr289 htk291 hso293 hok294) (gLw.s (gLw.s (gLw.s (gLw.s (gLw.s (gLw.s gLw.z))))))
  have hk0 : (0 : Int) * (35 * (b - a + 1) + 73) = 0 := Int.zero_mul _
  have hK0 : (ewK ek0 ek1 iv a b ov bt cf sg (0 : Int).toNat).1 = 0 := rfl
  exact gz_wk (lp12 _ h1 0 w0 u0 b0 0 (Nat.lt_succ_self _) sh1 (by omega) (by omega) (by omega) (by omega) (by omega) (by omega) (by omega) (by omega) (by omega) (by omega) (by omega) (by omega) s9 s10 s11 s6 s7 s8 eh1 pr3 pr4 pr5 hso14 hok15) (gLw.s (gLw.s (gLw.s (gLw.s (gLw.s (gLw.s gLw.z))))))
