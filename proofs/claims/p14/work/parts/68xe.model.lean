/-! ===== the encoder of the reference (by program) ===== -/
set_option maxRecDepth 20000 in
set_option maxHeartbeats 4000000 in
theorem mn_putBlocks (d : Nat) {ty : Nat → Nat} {h : gH} (hJ : gJ rT 1027 ty h) (m : Nat) (tm : ty m = 1) (a : Int) (ra : 0 ≤ a ∧ a ≤ 63) (b : Int) (rb : 0 ≤ b ∧ b ≤ 63) (ov : Int) (rov : 0 ≤ ov ∧ ov ≤ 4) (bt : Int) (rbt : 0 ≤ bt ∧ bt ≤ 3) (ic : Int) (eic : h.2.2.2.2 m 67 = .int (zi ic)) (ric : 0 ≤ ic ∧ ic ≤ 0) (mb : Int) (emb : h.2.2.2.2 m 64 = .int (zi mb)) (rmb : 0 ≤ mb ∧ mb ≤ 16) (iv : Int) (eiv : h.2.2.2.2 m 52 = .int (zi iv)) (riv : 0 ≤ iv ∧ iv ≤ 100) (cf w0 w1 : Nat → Int) (pp0 : a ≤ b) (pp1 : a = 0 → (b = 0 ∨ ov = 0)) (uq : gUq ty) (hyf33 : gRn (64 * mb).toNat ty 33 cf h) (hyf36 : gRn 514 ty 36 (eeJ w0 w1) h) (hywb0 : ewB w0 100) (hywb1 : ewB w1 100) : gz gPP gGG gcn (d + 4) gt190 0 (gent [.ref m, .int (zi a), .int (zi b), .int (zi ov), .int (zi bt)] 6) [] h (fun q _ => gSs rT 1027 ty [1074, 1075, 36999, 42999] h q.2.2 ∧ gfin gt190 q.1 q.2.1 = some none ∧ (gRn 514 ty 36 (eeJ (ecK iv a b ov bt cf w0 w1 (mb).toNat).2.1 (ecK iv a b ov bt cf w0 w1 (mb).toNat).2.2) q.2.2)) := by
  have hS : gSs rT 1027 ty [1074, 1075, 36999, 42999] h h := gSs.rf hJ
  refine gz_s 2 (pc' := 2) (L' := [some (.ref m), some (.int (zi a)), some (.int (zi b)), some (.int (zi ov)), some (.int (zi bt)), none]) (S' := [.int (zi 0), .ref m]) rfl ?_
  refine gs_put rfl (by decide) rfl hS tm rfl rfl rfl rfl (Or.inl rfl) (by decide) (by omega) (by omega) (fun h1 sh1 eh1 fh1 => ?_)
  have pr2 := gRn.pt fh1 tm (by decide) hyf33
  have pr3 := gRn.pt fh1 tm (by decide) hyf36
  have s4 := (fh1 m 67 (fun q => absurd q.2 (by decide))).trans eic
  have s5 := (fh1 m 64 (fun q => absurd q.2 (by decide))).trans emb
  have s6 := (fh1 m 52 (fun q => absurd q.2 (by decide))).trans eiv
  refine gz_s 2 (pc' := 8) (L' := [some (.ref m), some (.int (zi a)), some (.int (zi b)), some (.int (zi ov)), some (.int (zi bt)), some (.int (zi 0))]) (S' := []) rfl ?_
  have lp7 : ∀ (fu : Nat) (h8 : gH) (k : Int) (lv : Int), (17 - k).toNat < fu → gSs rT 1027 ty [1074, 1075, 36999, 42999] h h8 → (0 ≤ k ∧ k ≤ 16) → ((-2048) ≤ lv ∧ lv ≤ 2048) → (k ≤ mb) → (lv = (ecK iv a b ov bt cf w0 w1 (k).toNat).1) → h8.2.2.2.2 m 67 = .int (zi ic) → h8.2.2.2.2 m 64 = .int (zi mb) → h8.2.2.2.2 m 52 = .int (zi iv) → h8.2.2.2.2 m 74 = .int (zi lv) → gRn (64 * mb).toNat ty 33 cf h8 → ewB w0 100 → ewB w1 100 → gRn 514 ty 36 (eeJ (ecK iv a b ov bt cf w0 w1 (k).toNat).2.1 (ecK iv a b ov bt cf w0 w1 (k).toNat).2.2) h8 → gz gPP gGG gcn (d + 4) gt190 8 [some (.ref m), some (.int (zi a)), some (.int (zi b)), some (.int (zi ov)), some (.int (zi bt)), some (.int (zi k))] [] h8 (fun q _ => gSs rT 1027 ty [1074, 1075, 36999, 42999] h q.2.2 ∧ gfin gt190 q.1 q.2.1 = some none ∧ (gRn 514 ty 36 (eeJ (ecK iv a b ov bt cf w0 w1 (mb).toNat).2.1 (ecK iv a b ov bt cf w0 w1 (mb).toNat).2.2) q.2.2)) := by
    intro fu
    induction fu with
    | zero => intro h8 k lv hm; exact absurd hm (Nat.not_lt_zero _)
    | succ fu ihlp7 =>
      intro h8 k lv lp7m sh8 lp7f0 lp7f1 lp7f2 lp7f3 lp7k0 lp7k1 lp7k2 lp7k3 lp7k4 lp7k5 lp7k6 lp7k7
      refine gz_s 2 (pc' := 11) (L' := [some (.ref m), some (.int (zi a)), some (.int (zi b)), some (.int (zi ov)), some (.int (zi bt)), some (.int (zi k))]) (S' := [.ref m, .int (zi k)]) rfl ?_
      refine gs_gtk rfl (by decide) rfl sh8.1 tm rfl rfl lp7k1 ?_
      by_cases hc9 : (mb : Int) ≤ k
      · refine gy_icT (pc' := 167) rfl (by decide) (by decide) (by omega) (by omega) hc9 ?_
        have hrw10 : gRn 514 ty 36 (eeJ (ecK iv a b ov bt cf w0 w1 (mb).toNat).2.1 (ecK iv a b ov bt cf w0 w1 (mb).toNat).2.2) h8 := by rw [show mb = k by omega]; exact lp7k7
        exact gz_end (I := .return_) (len := 1) rfl (Or.inl rfl) ⟨sh8, rfl, hrw10⟩
      · refine gy_icF rfl (by decide) (by decide) (by omega) (by omega) hc9 ?_
        have hi0 : (64 * k).toNat = 64 * (k).toNat := by omega
        have hi1 : ((64 * k) + a).toNat = 64 * (k).toNat + a.toNat := by omega
        have hi2 : ((64 * k) + 1).toNat = 64 * (k).toNat + (1 : Int).toNat := by omega
        have hbn : (k + 1).toNat = (k).toNat + 1 := by omega
        refine gz_s 1 (pc' := 18) (L' := [some (.ref m), some (.int (zi a)), some (.int (zi b)), some (.int (zi ov)), some (.int (zi bt)), some (.int (zi k))]) (S' := [.ref m]) rfl ?_
        refine gs_gtk rfl (by decide) rfl sh8.1 tm rfl rfl lp7k2 ?_
        by_cases hc11 : (iv : Int) ≤ 0
        · refine gy_ifT (pc' := 75) rfl (by decide) (by decide) (by omega) hc11 ?_
          refine gz_s 1 (pc' := 76) (L' := [some (.ref m), some (.int (zi a)), some (.int (zi b)), some (.int (zi ov)), some (.int (zi bt)), some (.int (zi k))]) (S' := [.int (zi a)]) rfl ?_
          by_cases hc12 : ¬ (a : Int) = 0
          · refine gy_ifT (pc' := 96) rfl (by decide) (by decide) (by omega) hc12 ?_
            refine gz_s 1 (pc' := 97) (L' := [some (.ref m), some (.int (zi a)), some (.int (zi b)), some (.int (zi ov)), some (.int (zi bt)), some (.int (zi k))]) (S' := [.int (zi a)]) rfl ?_
            refine gy_ifT (pc' := 120) rfl (by decide) (by decide) (by omega) (by first | (simp [zc]; done) | (simp only [zc]; omega)) ?_
            refine gz_s 1 (pc' := 121) (L' := [some (.ref m), some (.int (zi a)), some (.int (zi b)), some (.int (zi ov)), some (.int (zi bt)), some (.int (zi k))]) (S' := [.int (zi a)]) rfl ?_
            refine gy_ifF rfl (by decide) (by decide) (by omega) (by first | (simp [zc]; done) | (simp only [zc]; omega)) ?_
            refine gz_s 1 (pc' := 125) (L' := [some (.ref m), some (.int (zi a)), some (.int (zi b)), some (.int (zi ov)), some (.int (zi bt)), some (.int (zi k))]) (S' := [.int (zi ov)]) rfl ?_
            by_cases hc13 : ¬ (ov : Int) = 0
            · refine gy_ifT (pc' := 144) rfl (by decide) (by decide) (by omega) hc13 ?_
              refine gz_s 1 (pc' := 145) (L' := [some (.ref m), some (.int (zi a)), some (.int (zi b)), some (.int (zi ov)), some (.int (zi bt)), some (.int (zi k))]) (S' := [.int (zi a)]) rfl ?_
              refine gy_ifF rfl (by decide) (by decide) (by omega) (by first | (simp [zc]; done) | (simp only [zc]; omega)) ?_
              have hwb14 : ewB ((ecK iv a b ov bt cf w0 w1 (k).toNat).2.2) 3000 := (ewB.of hywb1 (ecK_cnt (n := 257) (by omega) (by omega) (k).toNat).2 (by omega))
              have hKF : (if 1 ≤ a then a else 1) = a := if_pos (by omega)
              refine gy_s 7 (pc' := 158) (L' := [some (.ref m), some (.int (zi a)), some (.int (zi b)), some (.int (zi ov)), some (.int (zi bt)), some (.int (zi k))]) (S' := [.int (zi bt), .int (zi b), .int (zi a), .int ((zi 64) * (zi k)), .ref m]) (L2 := [some (.ref m), some (.int (zi a)), some (.int (zi b)), some (.int (zi ov)), some (.int (zi bt)), some (.int (zi k))]) (S2 := [.int (zi bt), .int (zi b), .int (zi a), .int (zi (64 * k)), .ref m]) rfl (by simp only [zi_add, zi_sub, zi_mul, zi_neg, zi_and1, zi_and7, zi_and15, zi_and31, zi_and255]) (by simp only [zi_add, zi_sub, zi_mul, zi_neg, zi_and1, zi_and7, zi_and15, zi_and31, zi_and255]) ?_
              refine gz_call rfl (by decide) rfl (by decide) (by decide) (gcal_of rfl rfl rfl (Nat.le_of_ble_eq_true rfl) (gJ.recv (G := gGG) sh8.1 tm rfl rfl)) (mn_putMore _ sh8.1 m tm (64 * k) (by omega) a (by omega) b (by omega) bt (by omega) ic lp7k0 (by omega) mb lp7k1 (by omega) ((ecK iv a b ov bt cf w0 w1 (k).toNat).2.1) ((ecK iv a b ov bt cf w0 w1 (k).toNat).2.2) cf (by omega) (by omega) uq lp7k7 hwb14 lp7k4) (fun q15 _ wq15 => ?_)
              obtain ⟨pq15, oq15, hq15⟩ := q15
              obtain ⟨xq15, gq15, yq15_0⟩ := wq15
              refine ⟨_, gq15, ?_⟩
              show gz gPP gGG gcn _ _ 161 [some (.ref m), some (.int (zi a)), some (.int (zi b)), some (.int (zi ov)), some (.int (zi bt)), some (.int (zi k))] [] hq15 _
              have sq15 := gSs.tr sh8 xq15 (by decide)
              have s16 := (xq15.2.2.2.2.2 m 67 (by rw [tm]; decide)).trans lp7k0
              have s17 := (xq15.2.2.2.2.2 m 64 (by rw [tm]; decide)).trans lp7k1
              have s18 := (xq15.2.2.2.2.2 m 52 (by rw [tm]; decide)).trans lp7k2
              have s19 := (xq15.2.2.2.2.2 m 74 (by rw [tm]; decide)).trans lp7k3
              have pr20 := gRn.fr xq15.2 (by decide) lp7k4
              have hK : ecK iv a b ov bt cf w0 w1 (k + 1).toNat = ((lv, (ecK iv a b ov bt cf w0 w1 (k).toNat).2.1).1, (lv, (ecK iv a b ov bt cf w0 w1 (k).toNat).2.1).2, eeRz ecS ecP bt cf (64 * k) a b ((ecK iv a b ov bt cf w0 w1 (k).toNat).2.2)) := by
                rw [hbn]
                exact ecK_s (bf := lv) ((ecI_n (by omega) (by intro w; rcases w with ⟨w1, w2, w3⟩; first | omega | exact absurd w3 (by assumption))).trans (by omega)) (ite2_2 (by omega) rfl) (ite3_1 ⟨by omega, by omega⟩ (by unfold eeRz; rw [hi1]))
              have hK1 : (ecK iv a b ov bt cf w0 w1 (k + 1).toNat).1 = (lv, (ecK iv a b ov bt cf w0 w1 (k).toNat).2.1).1 := by rw [hK]
              have hrw21 : gRn 514 ty 36 (eeJ (ecK iv a b ov bt cf w0 w1 (k + 1).toNat).2.1 (ecK iv a b ov bt cf w0 w1 (k + 1).toNat).2.2) hq15 := by rw [hK]; exact yq15_0
              have hK2 : ((lv, (ecK iv a b ov bt cf w0 w1 (k).toNat).2.1)).1 = lv := rfl
              refine gy_s 2 (pc' := 8) (L' := [some (.ref m), some (.int (zi a)), some (.int (zi b)), some (.int (zi ov)), some (.int (zi bt)), some (.int ((zi k) + zi 1))]) (S' := []) (L2 := [some (.ref m), some (.int (zi a)), some (.int (zi b)), some (.int (zi ov)), some (.int (zi bt)), some (.int (zi (k + 1)))]) (S2 := []) rfl (by simp only [zi_add, zi_sub, zi_mul, zi_neg, zi_and1, zi_and7, zi_and15, zi_and31, zi_and255]) (by simp only [zi_add, zi_sub, zi_mul, zi_neg, zi_and1, zi_and7, zi_and15, zi_and31, zi_and255]) ?_
              exact gz_wk (ihlp7 hq15 (k + 1) lv (by omega) sq15 (by omega) (by omega) (by omega) (by omega) s16 s17 s18 s19 pr20 lp7k5 lp7k6 hrw21) (gLw.s (gLw.s (gLw.s (gLw.s (gLw.s (gLw.s gLw.z))))))
            · refine gy_ifF rfl (by decide) (by decide) (by omega) hc13 ?_
              have hwb22 : ewB ((ecK iv a b ov bt cf w0 w1 (k).toNat).2.2) 3000 := (ewB.of hywb1 (ecK_cnt (n := 257) (by omega) (by omega) (k).toNat).2 (by omega))
              have hKF : (if 1 ≤ a then a else 1) = a := if_pos (by omega)
              refine gy_s 7 (pc' := 138) (L' := [some (.ref m), some (.int (zi a)), some (.int (zi b)), some (.int (zi ov)), some (.int (zi bt)), some (.int (zi k))]) (S' := [.int (zi bt), .int (zi b), .int (zi a), .int ((zi 64) * (zi k)), .ref m]) (L2 := [some (.ref m), some (.int (zi a)), some (.int (zi b)), some (.int (zi ov)), some (.int (zi bt)), some (.int (zi k))]) (S2 := [.int (zi bt), .int (zi b), .int (zi a), .int (zi (64 * k)), .ref m]) rfl (by simp only [zi_add, zi_sub, zi_mul, zi_neg, zi_and1, zi_and7, zi_and15, zi_and31, zi_and255]) (by simp only [zi_add, zi_sub, zi_mul, zi_neg, zi_and1, zi_and7, zi_and15, zi_and31, zi_and255]) ?_
              refine gz_call rfl (by decide) rfl (by decide) (by decide) (gcal_of rfl rfl rfl (Nat.le_of_ble_eq_true rfl) (gJ.recv (G := gGG) sh8.1 tm rfl rfl)) (mn_putOthers _ sh8.1 m tm (64 * k) (by omega) a (by omega) b (by omega) bt (by omega) ic lp7k0 (by omega) mb lp7k1 (by omega) ((ecK iv a b ov bt cf w0 w1 (k).toNat).2.1) ((ecK iv a b ov bt cf w0 w1 (k).toNat).2.2) cf (by omega) (by omega) uq lp7k7 hwb22 lp7k4) (fun q23 _ wq23 => ?_)
              obtain ⟨pq23, oq23, hq23⟩ := q23
              obtain ⟨xq23, gq23, yq23_0⟩ := wq23
              refine ⟨_, gq23, ?_⟩
              show gz gPP gGG gcn _ _ 141 [some (.ref m), some (.int (zi a)), some (.int (zi b)), some (.int (zi ov)), some (.int (zi bt)), some (.int (zi k))] [] hq23 _
              have sq23 := gSs.tr sh8 xq23 (by decide)
              have s24 := (xq23.2.2.2.2.2 m 67 (by rw [tm]; decide)).trans lp7k0
              have s25 := (xq23.2.2.2.2.2 m 64 (by rw [tm]; decide)).trans lp7k1
              have s26 := (xq23.2.2.2.2.2 m 52 (by rw [tm]; decide)).trans lp7k2
              have s27 := (xq23.2.2.2.2.2 m 74 (by rw [tm]; decide)).trans lp7k3
              have pr28 := gRn.fr xq23.2 (by decide) lp7k4
              refine gz_s 1 (pc' := 161) (L' := [some (.ref m), some (.int (zi a)), some (.int (zi b)), some (.int (zi ov)), some (.int (zi bt)), some (.int (zi k))]) (S' := []) rfl ?_
              have hK : ecK iv a b ov bt cf w0 w1 (k + 1).toNat = ((lv, (ecK iv a b ov bt cf w0 w1 (k).toNat).2.1).1, (lv, (ecK iv a b ov bt cf w0 w1 (k).toNat).2.1).2, eeOt ecS ecP bt cf ((64 * k) + a).toNat (b - a + 1).toNat ((ecK iv a b ov bt cf w0 w1 (k).toNat).2.2)) := by
                rw [hbn]
                exact ecK_s (bf := lv) ((ecI_n (by omega) (by intro w; rcases w with ⟨w1, w2, w3⟩; first | omega | exact absurd w3 (by assumption))).trans (by omega)) (ite2_2 (by omega) rfl) (ite3_2 (by omega) (by omega) (by rw [hKF, hi1]))
              have hK1 : (ecK iv a b ov bt cf w0 w1 (k + 1).toNat).1 = (lv, (ecK iv a b ov bt cf w0 w1 (k).toNat).2.1).1 := by rw [hK]
              have hrw29 : gRn 514 ty 36 (eeJ (ecK iv a b ov bt cf w0 w1 (k + 1).toNat).2.1 (ecK iv a b ov bt cf w0 w1 (k + 1).toNat).2.2) hq23 := by rw [hK]; exact yq23_0
              have hK2 : ((lv, (ecK iv a b ov bt cf w0 w1 (k).toNat).2.1)).1 = lv := rfl
              refine gy_s 2 (pc' := 8) (L' := [some (.ref m), some (.int (zi a)), some (.int (zi b)), some (.int (zi ov)), some (.int (zi bt)), some (.int ((zi k) + zi 1))]) (S' := []) (L2 := [some (.ref m), some (.int (zi a)), some (.int (zi b)), some (.int (zi ov)), some (.int (zi bt)), some (.int (zi (k + 1)))]) (S2 := []) rfl (by simp only [zi_add, zi_sub, zi_mul, zi_neg, zi_and1, zi_and7, zi_and15, zi_and31, zi_and255]) (by simp only [zi_add, zi_sub, zi_mul, zi_neg, zi_and1, zi_and7, zi_and15, zi_and31, zi_and255]) ?_
              exact gz_wk (ihlp7 hq23 (k + 1) lv (by omega) sq23 (by omega) (by omega) (by omega) (by omega) s24 s25 s26 s27 pr28 lp7k5 lp7k6 hrw29) (gLw.s (gLw.s (gLw.s (gLw.s (gLw.s (gLw.s gLw.z))))))
          · refine gy_ifF rfl (by decide) (by decide) (by omega) hc12 ?_
            have hwb30 : ewB ((ecK iv a b ov bt cf w0 w1 (k).toNat).2.1) 3000 := (ewB.of hywb0 (ecK_cnt (n := 257) (by omega) (by omega) (k).toNat).1 (by omega))
            refine gz_s 2 (pc' := 81) (L' := [some (.ref m), some (.int (zi a)), some (.int (zi b)), some (.int (zi ov)), some (.int (zi bt)), some (.int (zi k))]) (S' := [.ref m, .ref m]) rfl ?_
            refine gs_gtr rfl (by decide) rfl sh8.1 tm rfl rfl rfl (fun c31 ec31 tc31 => ?_)
            refine gy_s 3 (pc' := 89) (L' := [some (.ref m), some (.int (zi a)), some (.int (zi b)), some (.int (zi ov)), some (.int (zi bt)), some (.int (zi k))]) (S' := [.int ((zi 64) * (zi k)), .ref c31, .ref m]) (L2 := [some (.ref m), some (.int (zi a)), some (.int (zi b)), some (.int (zi ov)), some (.int (zi bt)), some (.int (zi k))]) (S2 := [.int (zi (64 * k)), .ref c31, .ref m]) rfl (by simp only [zi_add, zi_sub, zi_mul, zi_neg, zi_and1, zi_and7, zi_and15, zi_and31, zi_and255]) (by simp only [zi_add, zi_sub, zi_mul, zi_neg, zi_and1, zi_and7, zi_and15, zi_and31, zi_and255]) ?_
            have hl32 : 1024 ≤ h8.2.2.2.1 c31 ∧ h8.2.2.2.1 c31 ≤ 1024 := gJ.rowl (G := gGG) sh8.1 tc31 rfl
            refine gs_ald rfl (by decide) sh8.1 tc31 rfl rfl rfl (by decide) (fun _ => rfl) (by omega) (by omega) (fun z33 ez33 az33 bz33 => ?_)
            have hf34 := gRn.at (i := 64 * k) (z := z33) lp7k4 tc31 ez33 (by omega) (by omega) (by omega)
            have hcv : cf (64 * (k).toNat) = z33 := by rw [← hi0]; exact hf34
            refine gz_s 2 (pc' := 93) (L' := [some (.ref m), some (.int (zi a)), some (.int (zi b)), some (.int (zi ov)), some (.int (zi bt)), some (.int (zi k))]) (S' := [.int (zi bt), .int (zi ov), .int (zi z33), .ref m]) rfl ?_
            refine gz_call rfl (by decide) rfl (by decide) (by decide) (gcal_of rfl rfl rfl (Nat.le_of_ble_eq_true rfl) (gJ.recv (G := gGG) sh8.1 tm rfl rfl)) (mn_putFirst _ sh8.1 m tm z33 (by omega) ov (by omega) bt (by omega) ic lp7k0 (by omega) lv lp7k3 (by omega) ((ecK iv a b ov bt cf w0 w1 (k).toNat).2.1) ((ecK iv a b ov bt cf w0 w1 (k).toNat).2.2) uq lp7k7 hwb30) (fun q35 _ wq35 => ?_)
            obtain ⟨pq35, oq35, hq35⟩ := q35
            obtain ⟨xq35, fq35_0, gq35, efq35_0, afq35_0, bfq35_0, uq35_0, yq35_0⟩ := wq35
            refine ⟨_, gq35, ?_⟩
            show gz gPP gGG gcn _ _ 96 [some (.ref m), some (.int (zi a)), some (.int (zi b)), some (.int (zi ov)), some (.int (zi bt)), some (.int (zi k))] [] hq35 _
            have sq35 := gSs.tr sh8 xq35 (by decide)
            have s36 := (xq35.2.2.2.2.2 m 67 (by rw [tm]; decide)).trans lp7k0
            have s37 := (xq35.2.2.2.2.2 m 64 (by rw [tm]; decide)).trans lp7k1
            have s38 := (xq35.2.2.2.2.2 m 52 (by rw [tm]; decide)).trans lp7k2
            have s39 := (xq35.2.2.2.2.2 m 63 (by rw [tm]; decide)).trans ec31
            have pr40 := gRn.fr xq35.2 (by decide) lp7k4
            refine gz_s 1 (pc' := 97) (L' := [some (.ref m), some (.int (zi a)), some (.int (zi b)), some (.int (zi ov)), some (.int (zi bt)), some (.int (zi k))]) (S' := [.int (zi a)]) rfl ?_
            refine gy_ifF rfl (by decide) (by decide) (by omega) (by first | (simp [zc]; done) | (simp only [zc]; omega)) ?_
            refine gz_s 1 (pc' := 101) (L' := [some (.ref m), some (.int (zi a)), some (.int (zi b)), some (.int (zi ov)), some (.int (zi bt)), some (.int (zi k))]) (S' := [.int (zi b)]) rfl ?_
            by_cases hc41 : (b : Int) ≤ 0
            · refine gy_ifT (pc' := 120) rfl (by decide) (by decide) (by omega) hc41 ?_
              refine gz_s 1 (pc' := 121) (L' := [some (.ref m), some (.int (zi a)), some (.int (zi b)), some (.int (zi ov)), some (.int (zi bt)), some (.int (zi k))]) (S' := [.int (zi a)]) rfl ?_
              refine gy_ifT (pc' := 144) rfl (by decide) (by decide) (by omega) (by first | (simp [zc]; done) | (simp only [zc]; omega)) ?_
              refine gz_s 1 (pc' := 145) (L' := [some (.ref m), some (.int (zi a)), some (.int (zi b)), some (.int (zi ov)), some (.int (zi bt)), some (.int (zi k))]) (S' := [.int (zi a)]) rfl ?_
              refine gy_ifT (pc' := 161) rfl (by decide) (by decide) (by omega) (by first | (simp [zc]; done) | (simp only [zc]; omega)) ?_
              have hK : ecK iv a b ov bt cf w0 w1 (k + 1).toNat = ((eeFi ecS ecP bt ov z33 lv ((ecK iv a b ov bt cf w0 w1 (k).toNat).2.1)).1, (eeFi ecS ecP bt ov z33 lv ((ecK iv a b ov bt cf w0 w1 (k).toNat).2.1)).2, (ecK iv a b ov bt cf w0 w1 (k).toNat).2.2) := by
                rw [hbn]
                exact ecK_s (bf := lv) ((ecI_n (by omega) (by intro w; rcases w with ⟨w1, w2, w3⟩; first | omega | exact absurd w3 (by assumption))).trans (by omega)) (ite2_1 (by omega) (by rw [hcv])) (ite3_3 (by omega) (by omega) rfl)
              have hK1 : (ecK iv a b ov bt cf w0 w1 (k + 1).toNat).1 = (eeFi ecS ecP bt ov z33 lv ((ecK iv a b ov bt cf w0 w1 (k).toNat).2.1)).1 := by rw [hK]
              have hrw42 : gRn 514 ty 36 (eeJ (ecK iv a b ov bt cf w0 w1 (k + 1).toNat).2.1 (ecK iv a b ov bt cf w0 w1 (k + 1).toNat).2.2) hq35 := by rw [hK]; exact yq35_0
              refine gy_s 2 (pc' := 8) (L' := [some (.ref m), some (.int (zi a)), some (.int (zi b)), some (.int (zi ov)), some (.int (zi bt)), some (.int ((zi k) + zi 1))]) (S' := []) (L2 := [some (.ref m), some (.int (zi a)), some (.int (zi b)), some (.int (zi ov)), some (.int (zi bt)), some (.int (zi (k + 1)))]) (S2 := []) rfl (by simp only [zi_add, zi_sub, zi_mul, zi_neg, zi_and1, zi_and7, zi_and15, zi_and31, zi_and255]) (by simp only [zi_add, zi_sub, zi_mul, zi_neg, zi_and1, zi_and7, zi_and15, zi_and31, zi_and255]) ?_
              exact gz_wk (ihlp7 hq35 (k + 1) fq35_0 (by omega) sq35 (by omega) (by omega) (by omega) (by omega) s36 s37 s38 efq35_0 pr40 lp7k5 lp7k6 hrw42) (gLw.s (gLw.s (gLw.s (gLw.s (gLw.s (gLw.s gLw.z))))))
            · refine gy_ifF rfl (by decide) (by decide) (by omega) hc41 ?_
              have hwb43 : ewB ((ecK iv a b ov bt cf w0 w1 (k).toNat).2.2) 3000 := (ewB.of hywb1 (ecK_cnt (n := 257) (by omega) (by omega) (k).toNat).2 (by omega))
              have hKF : (if 1 ≤ a then a else 1) = 1 := if_neg (by omega)
              refine gy_s 7 (pc' := 114) (L' := [some (.ref m), some (.int (zi a)), some (.int (zi b)), some (.int (zi ov)), some (.int (zi bt)), some (.int (zi k))]) (S' := [.int (zi bt), .int (zi b), .int (zi 1), .int ((zi 64) * (zi k)), .ref m]) (L2 := [some (.ref m), some (.int (zi a)), some (.int (zi b)), some (.int (zi ov)), some (.int (zi bt)), some (.int (zi k))]) (S2 := [.int (zi bt), .int (zi b), .int (zi 1), .int (zi (64 * k)), .ref m]) rfl (by simp only [zi_add, zi_sub, zi_mul, zi_neg, zi_and1, zi_and7, zi_and15, zi_and31, zi_and255]) (by simp only [zi_add, zi_sub, zi_mul, zi_neg, zi_and1, zi_and7, zi_and15, zi_and31, zi_and255]) ?_
              refine gz_call rfl (by decide) rfl (by decide) (by decide) (gcal_of rfl rfl rfl (Nat.le_of_ble_eq_true rfl) (gJ.recv (G := gGG) sq35.1 tm rfl rfl)) (mn_putOthers _ sq35.1 m tm (64 * k) (by omega) 1 (by omega) b (by omega) bt (by omega) ic s36 (by omega) mb s37 (by omega) ((eeFi ecS ecP bt ov z33 lv ((ecK iv a b ov bt cf w0 w1 (k).toNat).2.1)).2) ((ecK iv a b ov bt cf w0 w1 (k).toNat).2.2) cf (by omega) (by omega) uq yq35_0 hwb43 pr40) (fun q44 _ wq44 => ?_)
              obtain ⟨pq44, oq44, hq44⟩ := q44
              obtain ⟨xq44, gq44, yq44_0⟩ := wq44
              refine ⟨_, gq44, ?_⟩
              show gz gPP gGG gcn _ _ 117 [some (.ref m), some (.int (zi a)), some (.int (zi b)), some (.int (zi ov)), some (.int (zi bt)), some (.int (zi k))] [] hq44 _
              have sq44 := gSs.tr sq35 xq44 (by decide)
              have s45 := (xq44.2.2.2.2.2 m 67 (by rw [tm]; decide)).trans s36
              have s46 := (xq44.2.2.2.2.2 m 64 (by rw [tm]; decide)).trans s37
              have s47 := (xq44.2.2.2.2.2 m 52 (by rw [tm]; decide)).trans s38
              have s48 := (xq44.2.2.2.2.2 m 63 (by rw [tm]; decide)).trans s39
              have s49 := (xq44.2.2.2.2.2 m 74 (by rw [tm]; decide)).trans efq35_0
              have pr50 := gRn.fr xq44.2 (by decide) pr40
              refine gz_s 1 (pc' := 161) (L' := [some (.ref m), some (.int (zi a)), some (.int (zi b)), some (.int (zi ov)), some (.int (zi bt)), some (.int (zi k))]) (S' := []) rfl ?_
              have hK : ecK iv a b ov bt cf w0 w1 (k + 1).toNat = ((eeFi ecS ecP bt ov z33 lv ((ecK iv a b ov bt cf w0 w1 (k).toNat).2.1)).1, (eeFi ecS ecP bt ov z33 lv ((ecK iv a b ov bt cf w0 w1 (k).toNat).2.1)).2, eeOt ecS ecP bt cf ((64 * k) + 1).toNat (b - 1 + 1).toNat ((ecK iv a b ov bt cf w0 w1 (k).toNat).2.2)) := by
                rw [hbn]
                exact ecK_s (bf := lv) ((ecI_n (by omega) (by intro w; rcases w with ⟨w1, w2, w3⟩; first | omega | exact absurd w3 (by assumption))).trans (by omega)) (ite2_1 (by omega) (by rw [hcv])) (ite3_2 (by omega) (by omega) (by rw [hKF, hi2]))
              have hK1 : (ecK iv a b ov bt cf w0 w1 (k + 1).toNat).1 = (eeFi ecS ecP bt ov z33 lv ((ecK iv a b ov bt cf w0 w1 (k).toNat).2.1)).1 := by rw [hK]
              have hrw51 : gRn 514 ty 36 (eeJ (ecK iv a b ov bt cf w0 w1 (k + 1).toNat).2.1 (ecK iv a b ov bt cf w0 w1 (k + 1).toNat).2.2) hq44 := by rw [hK]; exact yq44_0
              refine gy_s 2 (pc' := 8) (L' := [some (.ref m), some (.int (zi a)), some (.int (zi b)), some (.int (zi ov)), some (.int (zi bt)), some (.int ((zi k) + zi 1))]) (S' := []) (L2 := [some (.ref m), some (.int (zi a)), some (.int (zi b)), some (.int (zi ov)), some (.int (zi bt)), some (.int (zi (k + 1)))]) (S2 := []) rfl (by simp only [zi_add, zi_sub, zi_mul, zi_neg, zi_and1, zi_and7, zi_and15, zi_and31, zi_and255]) (by simp only [zi_add, zi_sub, zi_mul, zi_neg, zi_and1, zi_and7, zi_and15, zi_and31, zi_and255]) ?_
              exact gz_wk (ihlp7 hq44 (k + 1) fq35_0 (by omega) sq44 (by omega) (by omega) (by omega) (by omega) s45 s46 s47 s49 pr50 lp7k5 lp7k6 hrw51) (gLw.s (gLw.s (gLw.s (gLw.s (gLw.s (gLw.s gLw.z))))))
        · refine gy_ifF rfl (by decide) (by decide) (by omega) hc11 ?_
          refine gz_s 1 (pc' := 26) (L' := [some (.ref m), some (.int (zi a)), some (.int (zi b)), some (.int (zi ov)), some (.int (zi bt)), some (.int (zi k))]) (S' := [.int (zi k)]) rfl ?_
          by_cases hc52 : (k : Int) ≤ 0
          · refine gy_ifT (pc' := 75) rfl (by decide) (by decide) (by omega) hc52 ?_
            refine gz_s 1 (pc' := 76) (L' := [some (.ref m), some (.int (zi a)), some (.int (zi b)), some (.int (zi ov)), some (.int (zi bt)), some (.int (zi k))]) (S' := [.int (zi a)]) rfl ?_
            by_cases hc53 : ¬ (a : Int) = 0
            · refine gy_ifT (pc' := 96) rfl (by decide) (by decide) (by omega) hc53 ?_
              refine gz_s 1 (pc' := 97) (L' := [some (.ref m), some (.int (zi a)), some (.int (zi b)), some (.int (zi ov)), some (.int (zi bt)), some (.int (zi k))]) (S' := [.int (zi a)]) rfl ?_
              refine gy_ifT (pc' := 120) rfl (by decide) (by decide) (by omega) (by first | (simp [zc]; done) | (simp only [zc]; omega)) ?_
              refine gz_s 1 (pc' := 121) (L' := [some (.ref m), some (.int (zi a)), some (.int (zi b)), some (.int (zi ov)), some (.int (zi bt)), some (.int (zi k))]) (S' := [.int (zi a)]) rfl ?_
              refine gy_ifF rfl (by decide) (by decide) (by omega) (by first | (simp [zc]; done) | (simp only [zc]; omega)) ?_
              refine gz_s 1 (pc' := 125) (L' := [some (.ref m), some (.int (zi a)), some (.int (zi b)), some (.int (zi ov)), some (.int (zi bt)), some (.int (zi k))]) (S' := [.int (zi ov)]) rfl ?_
              by_cases hc54 : ¬ (ov : Int) = 0
              · refine gy_ifT (pc' := 144) rfl (by decide) (by decide) (by omega) hc54 ?_
                refine gz_s 1 (pc' := 145) (L' := [some (.ref m), some (.int (zi a)), some (.int (zi b)), some (.int (zi ov)), some (.int (zi bt)), some (.int (zi k))]) (S' := [.int (zi a)]) rfl ?_
                refine gy_ifF rfl (by decide) (by decide) (by omega) (by first | (simp [zc]; done) | (simp only [zc]; omega)) ?_
                have hwb55 : ewB ((ecK iv a b ov bt cf w0 w1 (k).toNat).2.2) 3000 := (ewB.of hywb1 (ecK_cnt (n := 257) (by omega) (by omega) (k).toNat).2 (by omega))
                have hKF : (if 1 ≤ a then a else 1) = a := if_pos (by omega)
                refine gy_s 7 (pc' := 158) (L' := [some (.ref m), some (.int (zi a)), some (.int (zi b)), some (.int (zi ov)), some (.int (zi bt)), some (.int (zi k))]) (S' := [.int (zi bt), .int (zi b), .int (zi a), .int ((zi 64) * (zi k)), .ref m]) (L2 := [some (.ref m), some (.int (zi a)), some (.int (zi b)), some (.int (zi ov)), some (.int (zi bt)), some (.int (zi k))]) (S2 := [.int (zi bt), .int (zi b), .int (zi a), .int (zi (64 * k)), .ref m]) rfl (by simp only [zi_add, zi_sub, zi_mul, zi_neg, zi_and1, zi_and7, zi_and15, zi_and31, zi_and255]) (by simp only [zi_add, zi_sub, zi_mul, zi_neg, zi_and1, zi_and7, zi_and15, zi_and31, zi_and255]) ?_
                refine gz_call rfl (by decide) rfl (by decide) (by decide) (gcal_of rfl rfl rfl (Nat.le_of_ble_eq_true rfl) (gJ.recv (G := gGG) sh8.1 tm rfl rfl)) (mn_putMore _ sh8.1 m tm (64 * k) (by omega) a (by omega) b (by omega) bt (by omega) ic lp7k0 (by omega) mb lp7k1 (by omega) ((ecK iv a b ov bt cf w0 w1 (k).toNat).2.1) ((ecK iv a b ov bt cf w0 w1 (k).toNat).2.2) cf (by omega) (by omega) uq lp7k7 hwb55 lp7k4) (fun q56 _ wq56 => ?_)
                obtain ⟨pq56, oq56, hq56⟩ := q56
                obtain ⟨xq56, gq56, yq56_0⟩ := wq56
                refine ⟨_, gq56, ?_⟩
                show gz gPP gGG gcn _ _ 161 [some (.ref m), some (.int (zi a)), some (.int (zi b)), some (.int (zi ov)), some (.int (zi bt)), some (.int (zi k))] [] hq56 _
                have sq56 := gSs.tr sh8 xq56 (by decide)
                have s57 := (xq56.2.2.2.2.2 m 67 (by rw [tm]; decide)).trans lp7k0
                have s58 := (xq56.2.2.2.2.2 m 64 (by rw [tm]; decide)).trans lp7k1
                have s59 := (xq56.2.2.2.2.2 m 52 (by rw [tm]; decide)).trans lp7k2
                have s60 := (xq56.2.2.2.2.2 m 74 (by rw [tm]; decide)).trans lp7k3
                have pr61 := gRn.fr xq56.2 (by decide) lp7k4
                have hK : ecK iv a b ov bt cf w0 w1 (k + 1).toNat = ((lv, (ecK iv a b ov bt cf w0 w1 (k).toNat).2.1).1, (lv, (ecK iv a b ov bt cf w0 w1 (k).toNat).2.1).2, eeRz ecS ecP bt cf (64 * k) a b ((ecK iv a b ov bt cf w0 w1 (k).toNat).2.2)) := by
                  rw [hbn]
                  exact ecK_s (bf := lv) ((ecI_n (by omega) (by intro w; rcases w with ⟨w1, w2, w3⟩; first | omega | exact absurd w3 (by assumption))).trans (by omega)) (ite2_2 (by omega) rfl) (ite3_1 ⟨by omega, by omega⟩ (by unfold eeRz; rw [hi1]))
                have hK1 : (ecK iv a b ov bt cf w0 w1 (k + 1).toNat).1 = (lv, (ecK iv a b ov bt cf w0 w1 (k).toNat).2.1).1 := by rw [hK]
                have hrw62 : gRn 514 ty 36 (eeJ (ecK iv a b ov bt cf w0 w1 (k + 1).toNat).2.1 (ecK iv a b ov bt cf w0 w1 (k + 1).toNat).2.2) hq56 := by rw [hK]; exact yq56_0
                have hK2 : ((lv, (ecK iv a b ov bt cf w0 w1 (k).toNat).2.1)).1 = lv := rfl
                refine gy_s 2 (pc' := 8) (L' := [some (.ref m), some (.int (zi a)), some (.int (zi b)), some (.int (zi ov)), some (.int (zi bt)), some (.int ((zi k) + zi 1))]) (S' := []) (L2 := [some (.ref m), some (.int (zi a)), some (.int (zi b)), some (.int (zi ov)), some (.int (zi bt)), some (.int (zi (k + 1)))]) (S2 := []) rfl (by simp only [zi_add, zi_sub, zi_mul, zi_neg, zi_and1, zi_and7, zi_and15, zi_and31, zi_and255]) (by simp only [zi_add, zi_sub, zi_mul, zi_neg, zi_and1, zi_and7, zi_and15, zi_and31, zi_and255]) ?_
                exact gz_wk (ihlp7 hq56 (k + 1) lv (by omega) sq56 (by omega) (by omega) (by omega) (by omega) s57 s58 s59 s60 pr61 lp7k5 lp7k6 hrw62) (gLw.s (gLw.s (gLw.s (gLw.s (gLw.s (gLw.s gLw.z))))))
              · refine gy_ifF rfl (by decide) (by decide) (by omega) hc54 ?_
                have hwb63 : ewB ((ecK iv a b ov bt cf w0 w1 (k).toNat).2.2) 3000 := (ewB.of hywb1 (ecK_cnt (n := 257) (by omega) (by omega) (k).toNat).2 (by omega))
                have hKF : (if 1 ≤ a then a else 1) = a := if_pos (by omega)
                refine gy_s 7 (pc' := 138) (L' := [some (.ref m), some (.int (zi a)), some (.int (zi b)), some (.int (zi ov)), some (.int (zi bt)), some (.int (zi k))]) (S' := [.int (zi bt), .int (zi b), .int (zi a), .int ((zi 64) * (zi k)), .ref m]) (L2 := [some (.ref m), some (.int (zi a)), some (.int (zi b)), some (.int (zi ov)), some (.int (zi bt)), some (.int (zi k))]) (S2 := [.int (zi bt), .int (zi b), .int (zi a), .int (zi (64 * k)), .ref m]) rfl (by simp only [zi_add, zi_sub, zi_mul, zi_neg, zi_and1, zi_and7, zi_and15, zi_and31, zi_and255]) (by simp only [zi_add, zi_sub, zi_mul, zi_neg, zi_and1, zi_and7, zi_and15, zi_and31, zi_and255]) ?_
                refine gz_call rfl (by decide) rfl (by decide) (by decide) (gcal_of rfl rfl rfl (Nat.le_of_ble_eq_true rfl) (gJ.recv (G := gGG) sh8.1 tm rfl rfl)) (mn_putOthers _ sh8.1 m tm (64 * k) (by omega) a (by omega) b (by omega) bt (by omega) ic lp7k0 (by omega) mb lp7k1 (by omega) ((ecK iv a b ov bt cf w0 w1 (k).toNat).2.1) ((ecK iv a b ov bt cf w0 w1 (k).toNat).2.2) cf (by omega) (by omega) uq lp7k7 hwb63 lp7k4) (fun q64 _ wq64 => ?_)
                obtain ⟨pq64, oq64, hq64⟩ := q64
                obtain ⟨xq64, gq64, yq64_0⟩ := wq64
                refine ⟨_, gq64, ?_⟩
                show gz gPP gGG gcn _ _ 141 [some (.ref m), some (.int (zi a)), some (.int (zi b)), some (.int (zi ov)), some (.int (zi bt)), some (.int (zi k))] [] hq64 _
                have sq64 := gSs.tr sh8 xq64 (by decide)
                have s65 := (xq64.2.2.2.2.2 m 67 (by rw [tm]; decide)).trans lp7k0
                have s66 := (xq64.2.2.2.2.2 m 64 (by rw [tm]; decide)).trans lp7k1
                have s67 := (xq64.2.2.2.2.2 m 52 (by rw [tm]; decide)).trans lp7k2
                have s68 := (xq64.2.2.2.2.2 m 74 (by rw [tm]; decide)).trans lp7k3
                have pr69 := gRn.fr xq64.2 (by decide) lp7k4
                refine gz_s 1 (pc' := 161) (L' := [some (.ref m), some (.int (zi a)), some (.int (zi b)), some (.int (zi ov)), some (.int (zi bt)), some (.int (zi k))]) (S' := []) rfl ?_
                have hK : ecK iv a b ov bt cf w0 w1 (k + 1).toNat = ((lv, (ecK iv a b ov bt cf w0 w1 (k).toNat).2.1).1, (lv, (ecK iv a b ov bt cf w0 w1 (k).toNat).2.1).2, eeOt ecS ecP bt cf ((64 * k) + a).toNat (b - a + 1).toNat ((ecK iv a b ov bt cf w0 w1 (k).toNat).2.2)) := by
                  rw [hbn]
                  exact ecK_s (bf := lv) ((ecI_n (by omega) (by intro w; rcases w with ⟨w1, w2, w3⟩; first | omega | exact absurd w3 (by assumption))).trans (by omega)) (ite2_2 (by omega) rfl) (ite3_2 (by omega) (by omega) (by rw [hKF, hi1]))
                have hK1 : (ecK iv a b ov bt cf w0 w1 (k + 1).toNat).1 = (lv, (ecK iv a b ov bt cf w0 w1 (k).toNat).2.1).1 := by rw [hK]
                have hrw70 : gRn 514 ty 36 (eeJ (ecK iv a b ov bt cf w0 w1 (k + 1).toNat).2.1 (ecK iv a b ov bt cf w0 w1 (k + 1).toNat).2.2) hq64 := by rw [hK]; exact yq64_0
                have hK2 : ((lv, (ecK iv a b ov bt cf w0 w1 (k).toNat).2.1)).1 = lv := rfl
                refine gy_s 2 (pc' := 8) (L' := [some (.ref m), some (.int (zi a)), some (.int (zi b)), some (.int (zi ov)), some (.int (zi bt)), some (.int ((zi k) + zi 1))]) (S' := []) (L2 := [some (.ref m), some (.int (zi a)), some (.int (zi b)), some (.int (zi ov)), some (.int (zi bt)), some (.int (zi (k + 1)))]) (S2 := []) rfl (by simp only [zi_add, zi_sub, zi_mul, zi_neg, zi_and1, zi_and7, zi_and15, zi_and31, zi_and255]) (by simp only [zi_add, zi_sub, zi_mul, zi_neg, zi_and1, zi_and7, zi_and15, zi_and31, zi_and255]) ?_
                exact gz_wk (ihlp7 hq64 (k + 1) lv (by omega) sq64 (by omega) (by omega) (by omega) (by omega) s65 s66 s67 s68 pr69 lp7k5 lp7k6 hrw70) (gLw.s (gLw.s (gLw.s (gLw.s (gLw.s (gLw.s gLw.z))))))
            · refine gy_ifF rfl (by decide) (by decide) (by omega) hc53 ?_
              have hwb71 : ewB ((ecK iv a b ov bt cf w0 w1 (k).toNat).2.1) 3000 := (ewB.of hywb0 (ecK_cnt (n := 257) (by omega) (by omega) (k).toNat).1 (by omega))
              refine gz_s 2 (pc' := 81) (L' := [some (.ref m), some (.int (zi a)), some (.int (zi b)), some (.int (zi ov)), some (.int (zi bt)), some (.int (zi k))]) (S' := [.ref m, .ref m]) rfl ?_
              refine gs_gtr rfl (by decide) rfl sh8.1 tm rfl rfl rfl (fun c72 ec72 tc72 => ?_)
              refine gy_s 3 (pc' := 89) (L' := [some (.ref m), some (.int (zi a)), some (.int (zi b)), some (.int (zi ov)), some (.int (zi bt)), some (.int (zi k))]) (S' := [.int ((zi 64) * (zi k)), .ref c72, .ref m]) (L2 := [some (.ref m), some (.int (zi a)), some (.int (zi b)), some (.int (zi ov)), some (.int (zi bt)), some (.int (zi k))]) (S2 := [.int (zi (64 * k)), .ref c72, .ref m]) rfl (by simp only [zi_add, zi_sub, zi_mul, zi_neg, zi_and1, zi_and7, zi_and15, zi_and31, zi_and255]) (by simp only [zi_add, zi_sub, zi_mul, zi_neg, zi_and1, zi_and7, zi_and15, zi_and31, zi_and255]) ?_
              have hl73 : 1024 ≤ h8.2.2.2.1 c72 ∧ h8.2.2.2.1 c72 ≤ 1024 := gJ.rowl (G := gGG) sh8.1 tc72 rfl
              refine gs_ald rfl (by decide) sh8.1 tc72 rfl rfl rfl (by decide) (fun _ => rfl) (by omega) (by omega) (fun z74 ez74 az74 bz74 => ?_)
              have hf75 := gRn.at (i := 64 * k) (z := z74) lp7k4 tc72 ez74 (by omega) (by omega) (by omega)
              have hcv : cf (64 * (k).toNat) = z74 := by rw [← hi0]; exact hf75
              refine gz_s 2 (pc' := 93) (L' := [some (.ref m), some (.int (zi a)), some (.int (zi b)), some (.int (zi ov)), some (.int (zi bt)), some (.int (zi k))]) (S' := [.int (zi bt), .int (zi ov), .int (zi z74), .ref m]) rfl ?_
              refine gz_call rfl (by decide) rfl (by decide) (by decide) (gcal_of rfl rfl rfl (Nat.le_of_ble_eq_true rfl) (gJ.recv (G := gGG) sh8.1 tm rfl rfl)) (mn_putFirst _ sh8.1 m tm z74 (by omega) ov (by omega) bt (by omega) ic lp7k0 (by omega) lv lp7k3 (by omega) ((ecK iv a b ov bt cf w0 w1 (k).toNat).2.1) ((ecK iv a b ov bt cf w0 w1 (k).toNat).2.2) uq lp7k7 hwb71) (fun q76 _ wq76 => ?_)
              obtain ⟨pq76, oq76, hq76⟩ := q76
              obtain ⟨xq76, fq76_0, gq76, efq76_0, afq76_0, bfq76_0, uq76_0, yq76_0⟩ := wq76
              refine ⟨_, gq76, ?_⟩
              show gz gPP gGG gcn _ _ 96 [some (.ref m), some (.int (zi a)), some (.int (zi b)), some (.int (zi ov)), some (.int (zi bt)), some (.int (zi k))] [] hq76 _
              have sq76 := gSs.tr sh8 xq76 (by decide)
              have s77 := (xq76.2.2.2.2.2 m 67 (by rw [tm]; decide)).trans lp7k0
              have s78 := (xq76.2.2.2.2.2 m 64 (by rw [tm]; decide)).trans lp7k1
              have s79 := (xq76.2.2.2.2.2 m 52 (by rw [tm]; decide)).trans lp7k2
              have s80 := (xq76.2.2.2.2.2 m 63 (by rw [tm]; decide)).trans ec72
              have pr81 := gRn.fr xq76.2 (by decide) lp7k4
              refine gz_s 1 (pc' := 97) (L' := [some (.ref m), some (.int (zi a)), some (.int (zi b)), some (.int (zi ov)), some (.int (zi bt)), some (.int (zi k))]) (S' := [.int (zi a)]) rfl ?_
              refine gy_ifF rfl (by decide) (by decide) (by omega) (by first | (simp [zc]; done) | (simp only [zc]; omega)) ?_
              refine gz_s 1 (pc' := 101) (L' := [some (.ref m), some (.int (zi a)), some (.int (zi b)), some (.int (zi ov)), some (.int (zi bt)), some (.int (zi k))]) (S' := [.int (zi b)]) rfl ?_
              by_cases hc82 : (b : Int) ≤ 0
              · refine gy_ifT (pc' := 120) rfl (by decide) (by decide) (by omega) hc82 ?_
                refine gz_s 1 (pc' := 121) (L' := [some (.ref m), some (.int (zi a)), some (.int (zi b)), some (.int (zi ov)), some (.int (zi bt)), some (.int (zi k))]) (S' := [.int (zi a)]) rfl ?_
                refine gy_ifT (pc' := 144) rfl (by decide) (by decide) (by omega) (by first | (simp [zc]; done) | (simp only [zc]; omega)) ?_
                refine gz_s 1 (pc' := 145) (L' := [some (.ref m), some (.int (zi a)), some (.int (zi b)), some (.int (zi ov)), some (.int (zi bt)), some (.int (zi k))]) (S' := [.int (zi a)]) rfl ?_
                refine gy_ifT (pc' := 161) rfl (by decide) (by decide) (by omega) (by first | (simp [zc]; done) | (simp only [zc]; omega)) ?_
                have hK : ecK iv a b ov bt cf w0 w1 (k + 1).toNat = ((eeFi ecS ecP bt ov z74 lv ((ecK iv a b ov bt cf w0 w1 (k).toNat).2.1)).1, (eeFi ecS ecP bt ov z74 lv ((ecK iv a b ov bt cf w0 w1 (k).toNat).2.1)).2, (ecK iv a b ov bt cf w0 w1 (k).toNat).2.2) := by
                  rw [hbn]
                  exact ecK_s (bf := lv) ((ecI_n (by omega) (by intro w; rcases w with ⟨w1, w2, w3⟩; first | omega | exact absurd w3 (by assumption))).trans (by omega)) (ite2_1 (by omega) (by rw [hcv])) (ite3_3 (by omega) (by omega) rfl)
                have hK1 : (ecK iv a b ov bt cf w0 w1 (k + 1).toNat).1 = (eeFi ecS ecP bt ov z74 lv ((ecK iv a b ov bt cf w0 w1 (k).toNat).2.1)).1 := by rw [hK]
                have hrw83 : gRn 514 ty 36 (eeJ (ecK iv a b ov bt cf w0 w1 (k + 1).toNat).2.1 (ecK iv a b ov bt cf w0 w1 (k + 1).toNat).2.2) hq76 := by rw [hK]; exact yq76_0
                refine gy_s 2 (pc' := 8) (L' := [some (.ref m), some (.int (zi a)), some (.int (zi b)), some (.int (zi ov)), some (.int (zi bt)), some (.int ((zi k) + zi 1))]) (S' := []) (L2 := [some (.ref m), some (.int (zi a)), some (.int (zi b)), some (.int (zi ov)), some (.int (zi bt)), some (.int (zi (k + 1)))]) (S2 := []) rfl (by simp only [zi_add, zi_sub, zi_mul, zi_neg, zi_and1, zi_and7, zi_and15, zi_and31, zi_and255]) (by simp only [zi_add, zi_sub, zi_mul, zi_neg, zi_and1, zi_and7, zi_and15, zi_and31, zi_and255]) ?_
                exact gz_wk (ihlp7 hq76 (k + 1) fq76_0 (by omega) sq76 (by omega) (by omega) (by omega) (by omega) s77 s78 s79 efq76_0 pr81 lp7k5 lp7k6 hrw83) (gLw.s (gLw.s (gLw.s (gLw.s (gLw.s (gLw.s gLw.z))))))
              · refine gy_ifF rfl (by decide) (by decide) (by omega) hc82 ?_
                have hwb84 : ewB ((ecK iv a b ov bt cf w0 w1 (k).toNat).2.2) 3000 := (ewB.of hywb1 (ecK_cnt (n := 257) (by omega) (by omega) (k).toNat).2 (by omega))
                have hKF : (if 1 ≤ a then a else 1) = 1 := if_neg (by omega)
                refine gy_s 7 (pc' := 114) (L' := [some (.ref m), some (.int (zi a)), some (.int (zi b)), some (.int (zi ov)), some (.int (zi bt)), some (.int (zi k))]) (S' := [.int (zi bt), .int (zi b), .int (zi 1), .int ((zi 64) * (zi k)), .ref m]) (L2 := [some (.ref m), some (.int (zi a)), some (.int (zi b)), some (.int (zi ov)), some (.int (zi bt)), some (.int (zi k))]) (S2 := [.int (zi bt), .int (zi b), .int (zi 1), .int (zi (64 * k)), .ref m]) rfl (by simp only [zi_add, zi_sub, zi_mul, zi_neg, zi_and1, zi_and7, zi_and15, zi_and31, zi_and255]) (by simp only [zi_add, zi_sub, zi_mul, zi_neg, zi_and1, zi_and7, zi_and15, zi_and31, zi_and255]) ?_
                refine gz_call rfl (by decide) rfl (by decide) (by decide) (gcal_of rfl rfl rfl (Nat.le_of_ble_eq_true rfl) (gJ.recv (G := gGG) sq76.1 tm rfl rfl)) (mn_putOthers _ sq76.1 m tm (64 * k) (by omega) 1 (by omega) b (by omega) bt (by omega) ic s77 (by omega) mb s78 (by omega) ((eeFi ecS ecP bt ov z74 lv ((ecK iv a b ov bt cf w0 w1 (k).toNat).2.1)).2) ((ecK iv a b ov bt cf w0 w1 (k).toNat).2.2) cf (by omega) (by omega) uq yq76_0 hwb84 pr81) (fun q85 _ wq85 => ?_)
                obtain ⟨pq85, oq85, hq85⟩ := q85
                obtain ⟨xq85, gq85, yq85_0⟩ := wq85
                refine ⟨_, gq85, ?_⟩
                show gz gPP gGG gcn _ _ 117 [some (.ref m), some (.int (zi a)), some (.int (zi b)), some (.int (zi ov)), some (.int (zi bt)), some (.int (zi k))] [] hq85 _
                have sq85 := gSs.tr sq76 xq85 (by decide)
                have s86 := (xq85.2.2.2.2.2 m 67 (by rw [tm]; decide)).trans s77
                have s87 := (xq85.2.2.2.2.2 m 64 (by rw [tm]; decide)).trans s78
                have s88 := (xq85.2.2.2.2.2 m 52 (by rw [tm]; decide)).trans s79
                have s89 := (xq85.2.2.2.2.2 m 63 (by rw [tm]; decide)).trans s80
                have s90 := (xq85.2.2.2.2.2 m 74 (by rw [tm]; decide)).trans efq76_0
                have pr91 := gRn.fr xq85.2 (by decide) pr81
                refine gz_s 1 (pc' := 161) (L' := [some (.ref m), some (.int (zi a)), some (.int (zi b)), some (.int (zi ov)), some (.int (zi bt)), some (.int (zi k))]) (S' := []) rfl ?_
                have hK : ecK iv a b ov bt cf w0 w1 (k + 1).toNat = ((eeFi ecS ecP bt ov z74 lv ((ecK iv a b ov bt cf w0 w1 (k).toNat).2.1)).1, (eeFi ecS ecP bt ov z74 lv ((ecK iv a b ov bt cf w0 w1 (k).toNat).2.1)).2, eeOt ecS ecP bt cf ((64 * k) + 1).toNat (b - 1 + 1).toNat ((ecK iv a b ov bt cf w0 w1 (k).toNat).2.2)) := by
                  rw [hbn]
                  exact ecK_s (bf := lv) ((ecI_n (by omega) (by intro w; rcases w with ⟨w1, w2, w3⟩; first | omega | exact absurd w3 (by assumption))).trans (by omega)) (ite2_1 (by omega) (by rw [hcv])) (ite3_2 (by omega) (by omega) (by rw [hKF, hi2]))
                have hK1 : (ecK iv a b ov bt cf w0 w1 (k + 1).toNat).1 = (eeFi ecS ecP bt ov z74 lv ((ecK iv a b ov bt cf w0 w1 (k).toNat).2.1)).1 := by rw [hK]
                have hrw92 : gRn 514 ty 36 (eeJ (ecK iv a b ov bt cf w0 w1 (k + 1).toNat).2.1 (ecK iv a b ov bt cf w0 w1 (k + 1).toNat).2.2) hq85 := by rw [hK]; exact yq85_0
                refine gy_s 2 (pc' := 8) (L' := [some (.ref m), some (.int (zi a)), some (.int (zi b)), some (.int (zi ov)), some (.int (zi bt)), some (.int ((zi k) + zi 1))]) (S' := []) (L2 := [some (.ref m), some (.int (zi a)), some (.int (zi b)), some (.int (zi ov)), some (.int (zi bt)), some (.int (zi (k + 1)))]) (S2 := []) rfl (by simp only [zi_add, zi_sub, zi_mul, zi_neg, zi_and1, zi_and7, zi_and15, zi_and31, zi_and255]) (by simp only [zi_add, zi_sub, zi_mul, zi_neg, zi_and1, zi_and7, zi_and15, zi_and31, zi_and255]) ?_
                exact gz_wk (ihlp7 hq85 (k + 1) fq76_0 (by omega) sq85 (by omega) (by omega) (by omega) (by omega) s86 s87 s88 s90 pr91 lp7k5 lp7k6 hrw92) (gLw.s (gLw.s (gLw.s (gLw.s (gLw.s (gLw.s gLw.z))))))
          · refine gy_ifF rfl (by decide) (by decide) (by omega) hc52 ?_
            refine gz_s 2 (pc' := 32) (L' := [some (.ref m), some (.int (zi a)), some (.int (zi b)), some (.int (zi ov)), some (.int (zi bt)), some (.int (zi k))]) (S' := [.ref m, .int (zi k)]) rfl ?_
            refine gs_gtk rfl (by decide) rfl sh8.1 tm rfl rfl lp7k2 ?_
            refine gy_rem rfl (by decide) (by omega) (by omega) ?_
            have hd93 := zm_f (x := k) (y := iv) (by omega) (by omega)
            by_cases hc94 : ¬ (k % iv : Int) = 0
            · refine gy_ifT (pc' := 75) rfl (by decide) (by decide) (by omega) hc94 ?_
              refine gz_s 1 (pc' := 76) (L' := [some (.ref m), some (.int (zi a)), some (.int (zi b)), some (.int (zi ov)), some (.int (zi bt)), some (.int (zi k))]) (S' := [.int (zi a)]) rfl ?_
              by_cases hc95 : ¬ (a : Int) = 0
              · refine gy_ifT (pc' := 96) rfl (by decide) (by decide) (by omega) hc95 ?_
                refine gz_s 1 (pc' := 97) (L' := [some (.ref m), some (.int (zi a)), some (.int (zi b)), some (.int (zi ov)), some (.int (zi bt)), some (.int (zi k))]) (S' := [.int (zi a)]) rfl ?_
                refine gy_ifT (pc' := 120) rfl (by decide) (by decide) (by omega) (by first | (simp [zc]; done) | (simp only [zc]; omega)) ?_
                refine gz_s 1 (pc' := 121) (L' := [some (.ref m), some (.int (zi a)), some (.int (zi b)), some (.int (zi ov)), some (.int (zi bt)), some (.int (zi k))]) (S' := [.int (zi a)]) rfl ?_
                refine gy_ifF rfl (by decide) (by decide) (by omega) (by first | (simp [zc]; done) | (simp only [zc]; omega)) ?_
                refine gz_s 1 (pc' := 125) (L' := [some (.ref m), some (.int (zi a)), some (.int (zi b)), some (.int (zi ov)), some (.int (zi bt)), some (.int (zi k))]) (S' := [.int (zi ov)]) rfl ?_
                by_cases hc96 : ¬ (ov : Int) = 0
                · refine gy_ifT (pc' := 144) rfl (by decide) (by decide) (by omega) hc96 ?_
                  refine gz_s 1 (pc' := 145) (L' := [some (.ref m), some (.int (zi a)), some (.int (zi b)), some (.int (zi ov)), some (.int (zi bt)), some (.int (zi k))]) (S' := [.int (zi a)]) rfl ?_
                  refine gy_ifF rfl (by decide) (by decide) (by omega) (by first | (simp [zc]; done) | (simp only [zc]; omega)) ?_
                  have hwb97 : ewB ((ecK iv a b ov bt cf w0 w1 (k).toNat).2.2) 3000 := (ewB.of hywb1 (ecK_cnt (n := 257) (by omega) (by omega) (k).toNat).2 (by omega))
                  have hKF : (if 1 ≤ a then a else 1) = a := if_pos (by omega)
                  refine gy_s 7 (pc' := 158) (L' := [some (.ref m), some (.int (zi a)), some (.int (zi b)), some (.int (zi ov)), some (.int (zi bt)), some (.int (zi k))]) (S' := [.int (zi bt), .int (zi b), .int (zi a), .int ((zi 64) * (zi k)), .ref m]) (L2 := [some (.ref m), some (.int (zi a)), some (.int (zi b)), some (.int (zi ov)), some (.int (zi bt)), some (.int (zi k))]) (S2 := [.int (zi bt), .int (zi b), .int (zi a), .int (zi (64 * k)), .ref m]) rfl (by simp only [zi_add, zi_sub, zi_mul, zi_neg, zi_and1, zi_and7, zi_and15, zi_and31, zi_and255]) (by simp only [zi_add, zi_sub, zi_mul, zi_neg, zi_and1, zi_and7, zi_and15, zi_and31, zi_and255]) ?_
                  refine gz_call rfl (by decide) rfl (by decide) (by decide) (gcal_of rfl rfl rfl (Nat.le_of_ble_eq_true rfl) (gJ.recv (G := gGG) sh8.1 tm rfl rfl)) (mn_putMore _ sh8.1 m tm (64 * k) (by omega) a (by omega) b (by omega) bt (by omega) ic lp7k0 (by omega) mb lp7k1 (by omega) ((ecK iv a b ov bt cf w0 w1 (k).toNat).2.1) ((ecK iv a b ov bt cf w0 w1 (k).toNat).2.2) cf (by omega) (by omega) uq lp7k7 hwb97 lp7k4) (fun q98 _ wq98 => ?_)
                  obtain ⟨pq98, oq98, hq98⟩ := q98
                  obtain ⟨xq98, gq98, yq98_0⟩ := wq98
                  refine ⟨_, gq98, ?_⟩
                  show gz gPP gGG gcn _ _ 161 [some (.ref m), some (.int (zi a)), some (.int (zi b)), some (.int (zi ov)), some (.int (zi bt)), some (.int (zi k))] [] hq98 _
                  have sq98 := gSs.tr sh8 xq98 (by decide)
                  have s99 := (xq98.2.2.2.2.2 m 67 (by rw [tm]; decide)).trans lp7k0
                  have s100 := (xq98.2.2.2.2.2 m 64 (by rw [tm]; decide)).trans lp7k1
                  have s101 := (xq98.2.2.2.2.2 m 52 (by rw [tm]; decide)).trans lp7k2
                  have s102 := (xq98.2.2.2.2.2 m 74 (by rw [tm]; decide)).trans lp7k3
                  have pr103 := gRn.fr xq98.2 (by decide) lp7k4
                  have hK : ecK iv a b ov bt cf w0 w1 (k + 1).toNat = ((lv, (ecK iv a b ov bt cf w0 w1 (k).toNat).2.1).1, (lv, (ecK iv a b ov bt cf w0 w1 (k).toNat).2.1).2, eeRz ecS ecP bt cf (64 * k) a b ((ecK iv a b ov bt cf w0 w1 (k).toNat).2.2)) := by
                    rw [hbn]
                    exact ecK_s (bf := lv) ((ecI_n (by omega) (by intro w; rcases w with ⟨w1, w2, w3⟩; first | omega | exact absurd w3 (by assumption))).trans (by omega)) (ite2_2 (by omega) rfl) (ite3_1 ⟨by omega, by omega⟩ (by unfold eeRz; rw [hi1]))
                  have hK1 : (ecK iv a b ov bt cf w0 w1 (k + 1).toNat).1 = (lv, (ecK iv a b ov bt cf w0 w1 (k).toNat).2.1).1 := by rw [hK]
                  have hrw104 : gRn 514 ty 36 (eeJ (ecK iv a b ov bt cf w0 w1 (k + 1).toNat).2.1 (ecK iv a b ov bt cf w0 w1 (k + 1).toNat).2.2) hq98 := by rw [hK]; exact yq98_0
                  have hK2 : ((lv, (ecK iv a b ov bt cf w0 w1 (k).toNat).2.1)).1 = lv := rfl
                  refine gy_s 2 (pc' := 8) (L' := [some (.ref m), some (.int (zi a)), some (.int (zi b)), some (.int (zi ov)), some (.int (zi bt)), some (.int ((zi k) + zi 1))]) (S' := []) (L2 := [some (.ref m), some (.int (zi a)), some (.int (zi b)), some (.int (zi ov)), some (.int (zi bt)), some (.int (zi (k + 1)))]) (S2 := []) rfl (by simp only [zi_add, zi_sub, zi_mul, zi_neg, zi_and1, zi_and7, zi_and15, zi_and31, zi_and255]) (by simp only [zi_add, zi_sub, zi_mul, zi_neg, zi_and1, zi_and7, zi_and15, zi_and31, zi_and255]) ?_
                  exact gz_wk (ihlp7 hq98 (k + 1) lv (by omega) sq98 (by omega) (by omega) (by omega) (by omega) s99 s100 s101 s102 pr103 lp7k5 lp7k6 hrw104) (gLw.s (gLw.s (gLw.s (gLw.s (gLw.s (gLw.s gLw.z))))))
                · refine gy_ifF rfl (by decide) (by decide) (by omega) hc96 ?_
                  have hwb105 : ewB ((ecK iv a b ov bt cf w0 w1 (k).toNat).2.2) 3000 := (ewB.of hywb1 (ecK_cnt (n := 257) (by omega) (by omega) (k).toNat).2 (by omega))
                  have hKF : (if 1 ≤ a then a else 1) = a := if_pos (by omega)
                  refine gy_s 7 (pc' := 138) (L' := [some (.ref m), some (.int (zi a)), some (.int (zi b)), some (.int (zi ov)), some (.int (zi bt)), some (.int (zi k))]) (S' := [.int (zi bt), .int (zi b), .int (zi a), .int ((zi 64) * (zi k)), .ref m]) (L2 := [some (.ref m), some (.int (zi a)), some (.int (zi b)), some (.int (zi ov)), some (.int (zi bt)), some (.int (zi k))]) (S2 := [.int (zi bt), .int (zi b), .int (zi a), .int (zi (64 * k)), .ref m]) rfl (by simp only [zi_add, zi_sub, zi_mul, zi_neg, zi_and1, zi_and7, zi_and15, zi_and31, zi_and255]) (by simp only [zi_add, zi_sub, zi_mul, zi_neg, zi_and1, zi_and7, zi_and15, zi_and31, zi_and255]) ?_
                  refine gz_call rfl (by decide) rfl (by decide) (by decide) (gcal_of rfl rfl rfl (Nat.le_of_ble_eq_true rfl) (gJ.recv (G := gGG) sh8.1 tm rfl rfl)) (mn_putOthers _ sh8.1 m tm (64 * k) (by omega) a (by omega) b (by omega) bt (by omega) ic lp7k0 (by omega) mb lp7k1 (by omega) ((ecK iv a b ov bt cf w0 w1 (k).toNat).2.1) ((ecK iv a b ov bt cf w0 w1 (k).toNat).2.2) cf (by omega) (by omega) uq lp7k7 hwb105 lp7k4) (fun q106 _ wq106 => ?_)
                  obtain ⟨pq106, oq106, hq106⟩ := q106
                  obtain ⟨xq106, gq106, yq106_0⟩ := wq106
                  refine ⟨_, gq106, ?_⟩
                  show gz gPP gGG gcn _ _ 141 [some (.ref m), some (.int (zi a)), some (.int (zi b)), some (.int (zi ov)), some (.int (zi bt)), some (.int (zi k))] [] hq106 _
                  have sq106 := gSs.tr sh8 xq106 (by decide)
                  have s107 := (xq106.2.2.2.2.2 m 67 (by rw [tm]; decide)).trans lp7k0
                  have s108 := (xq106.2.2.2.2.2 m 64 (by rw [tm]; decide)).trans lp7k1
                  have s109 := (xq106.2.2.2.2.2 m 52 (by rw [tm]; decide)).trans lp7k2
                  have s110 := (xq106.2.2.2.2.2 m 74 (by rw [tm]; decide)).trans lp7k3
                  have pr111 := gRn.fr xq106.2 (by decide) lp7k4
                  refine gz_s 1 (pc' := 161) (L' := [some (.ref m), some (.int (zi a)), some (.int (zi b)), some (.int (zi ov)), some (.int (zi bt)), some (.int (zi k))]) (S' := []) rfl ?_
                  have hK : ecK iv a b ov bt cf w0 w1 (k + 1).toNat = ((lv, (ecK iv a b ov bt cf w0 w1 (k).toNat).2.1).1, (lv, (ecK iv a b ov bt cf w0 w1 (k).toNat).2.1).2, eeOt ecS ecP bt cf ((64 * k) + a).toNat (b - a + 1).toNat ((ecK iv a b ov bt cf w0 w1 (k).toNat).2.2)) := by
                    rw [hbn]
                    exact ecK_s (bf := lv) ((ecI_n (by omega) (by intro w; rcases w with ⟨w1, w2, w3⟩; first | omega | exact absurd w3 (by assumption))).trans (by omega)) (ite2_2 (by omega) rfl) (ite3_2 (by omega) (by omega) (by rw [hKF, hi1]))
                  have hK1 : (ecK iv a b ov bt cf w0 w1 (k + 1).toNat).1 = (lv, (ecK iv a b ov bt cf w0 w1 (k).toNat).2.1).1 := by rw [hK]
                  have hrw112 : gRn 514 ty 36 (eeJ (ecK iv a b ov bt cf w0 w1 (k + 1).toNat).2.1 (ecK iv a b ov bt cf w0 w1 (k + 1).toNat).2.2) hq106 := by rw [hK]; exact yq106_0
                  have hK2 : ((lv, (ecK iv a b ov bt cf w0 w1 (k).toNat).2.1)).1 = lv := rfl
                  refine gy_s 2 (pc' := 8) (L' := [some (.ref m), some (.int (zi a)), some (.int (zi b)), some (.int (zi ov)), some (.int (zi bt)), some (.int ((zi k) + zi 1))]) (S' := []) (L2 := [some (.ref m), some (.int (zi a)), some (.int (zi b)), some (.int (zi ov)), some (.int (zi bt)), some (.int (zi (k + 1)))]) (S2 := []) rfl (by simp only [zi_add, zi_sub, zi_mul, zi_neg, zi_and1, zi_and7, zi_and15, zi_and31, zi_and255]) (by simp only [zi_add, zi_sub, zi_mul, zi_neg, zi_and1, zi_and7, zi_and15, zi_and31, zi_and255]) ?_
                  exact gz_wk (ihlp7 hq106 (k + 1) lv (by omega) sq106 (by omega) (by omega) (by omega) (by omega) s107 s108 s109 s110 pr111 lp7k5 lp7k6 hrw112) (gLw.s (gLw.s (gLw.s (gLw.s (gLw.s (gLw.s gLw.z))))))
              · refine gy_ifF rfl (by decide) (by decide) (by omega) hc95 ?_
                have hwb113 : ewB ((ecK iv a b ov bt cf w0 w1 (k).toNat).2.1) 3000 := (ewB.of hywb0 (ecK_cnt (n := 257) (by omega) (by omega) (k).toNat).1 (by omega))
                refine gz_s 2 (pc' := 81) (L' := [some (.ref m), some (.int (zi a)), some (.int (zi b)), some (.int (zi ov)), some (.int (zi bt)), some (.int (zi k))]) (S' := [.ref m, .ref m]) rfl ?_
                refine gs_gtr rfl (by decide) rfl sh8.1 tm rfl rfl rfl (fun c114 ec114 tc114 => ?_)
                refine gy_s 3 (pc' := 89) (L' := [some (.ref m), some (.int (zi a)), some (.int (zi b)), some (.int (zi ov)), some (.int (zi bt)), some (.int (zi k))]) (S' := [.int ((zi 64) * (zi k)), .ref c114, .ref m]) (L2 := [some (.ref m), some (.int (zi a)), some (.int (zi b)), some (.int (zi ov)), some (.int (zi bt)), some (.int (zi k))]) (S2 := [.int (zi (64 * k)), .ref c114, .ref m]) rfl (by simp only [zi_add, zi_sub, zi_mul, zi_neg, zi_and1, zi_and7, zi_and15, zi_and31, zi_and255]) (by simp only [zi_add, zi_sub, zi_mul, zi_neg, zi_and1, zi_and7, zi_and15, zi_and31, zi_and255]) ?_
                have hl115 : 1024 ≤ h8.2.2.2.1 c114 ∧ h8.2.2.2.1 c114 ≤ 1024 := gJ.rowl (G := gGG) sh8.1 tc114 rfl
                refine gs_ald rfl (by decide) sh8.1 tc114 rfl rfl rfl (by decide) (fun _ => rfl) (by omega) (by omega) (fun z116 ez116 az116 bz116 => ?_)
                have hf117 := gRn.at (i := 64 * k) (z := z116) lp7k4 tc114 ez116 (by omega) (by omega) (by omega)
                have hcv : cf (64 * (k).toNat) = z116 := by rw [← hi0]; exact hf117
                refine gz_s 2 (pc' := 93) (L' := [some (.ref m), some (.int (zi a)), some (.int (zi b)), some (.int (zi ov)), some (.int (zi bt)), some (.int (zi k))]) (S' := [.int (zi bt), .int (zi ov), .int (zi z116), .ref m]) rfl ?_
                refine gz_call rfl (by decide) rfl (by decide) (by decide) (gcal_of rfl rfl rfl (Nat.le_of_ble_eq_true rfl) (gJ.recv (G := gGG) sh8.1 tm rfl rfl)) (mn_putFirst _ sh8.1 m tm z116 (by omega) ov (by omega) bt (by omega) ic lp7k0 (by omega) lv lp7k3 (by omega) ((ecK iv a b ov bt cf w0 w1 (k).toNat).2.1) ((ecK iv a b ov bt cf w0 w1 (k).toNat).2.2) uq lp7k7 hwb113) (fun q118 _ wq118 => ?_)
                obtain ⟨pq118, oq118, hq118⟩ := q118
                obtain ⟨xq118, fq118_0, gq118, efq118_0, afq118_0, bfq118_0, uq118_0, yq118_0⟩ := wq118
                refine ⟨_, gq118, ?_⟩
                show gz gPP gGG gcn _ _ 96 [some (.ref m), some (.int (zi a)), some (.int (zi b)), some (.int (zi ov)), some (.int (zi bt)), some (.int (zi k))] [] hq118 _
                have sq118 := gSs.tr sh8 xq118 (by decide)
                have s119 := (xq118.2.2.2.2.2 m 67 (by rw [tm]; decide)).trans lp7k0
                have s120 := (xq118.2.2.2.2.2 m 64 (by rw [tm]; decide)).trans lp7k1
                have s121 := (xq118.2.2.2.2.2 m 52 (by rw [tm]; decide)).trans lp7k2
                have s122 := (xq118.2.2.2.2.2 m 63 (by rw [tm]; decide)).trans ec114
                have pr123 := gRn.fr xq118.2 (by decide) lp7k4
                refine gz_s 1 (pc' := 97) (L' := [some (.ref m), some (.int (zi a)), some (.int (zi b)), some (.int (zi ov)), some (.int (zi bt)), some (.int (zi k))]) (S' := [.int (zi a)]) rfl ?_
                refine gy_ifF rfl (by decide) (by decide) (by omega) (by first | (simp [zc]; done) | (simp only [zc]; omega)) ?_
                refine gz_s 1 (pc' := 101) (L' := [some (.ref m), some (.int (zi a)), some (.int (zi b)), some (.int (zi ov)), some (.int (zi bt)), some (.int (zi k))]) (S' := [.int (zi b)]) rfl ?_
                by_cases hc124 : (b : Int) ≤ 0
                · refine gy_ifT (pc' := 120) rfl (by decide) (by decide) (by omega) hc124 ?_
                  refine gz_s 1 (pc' := 121) (L' := [some (.ref m), some (.int (zi a)), some (.int (zi b)), some (.int (zi ov)), some (.int (zi bt)), some (.int (zi k))]) (S' := [.int (zi a)]) rfl ?_
                  refine gy_ifT (pc' := 144) rfl (by decide) (by decide) (by omega) (by first | (simp [zc]; done) | (simp only [zc]; omega)) ?_
                  refine gz_s 1 (pc' := 145) (L' := [some (.ref m), some (.int (zi a)), some (.int (zi b)), some (.int (zi ov)), some (.int (zi bt)), some (.int (zi k))]) (S' := [.int (zi a)]) rfl ?_
                  refine gy_ifT (pc' := 161) rfl (by decide) (by decide) (by omega) (by first | (simp [zc]; done) | (simp only [zc]; omega)) ?_
                  have hK : ecK iv a b ov bt cf w0 w1 (k + 1).toNat = ((eeFi ecS ecP bt ov z116 lv ((ecK iv a b ov bt cf w0 w1 (k).toNat).2.1)).1, (eeFi ecS ecP bt ov z116 lv ((ecK iv a b ov bt cf w0 w1 (k).toNat).2.1)).2, (ecK iv a b ov bt cf w0 w1 (k).toNat).2.2) := by
                    rw [hbn]
                    exact ecK_s (bf := lv) ((ecI_n (by omega) (by intro w; rcases w with ⟨w1, w2, w3⟩; first | omega | exact absurd w3 (by assumption))).trans (by omega)) (ite2_1 (by omega) (by rw [hcv])) (ite3_3 (by omega) (by omega) rfl)
                  have hK1 : (ecK iv a b ov bt cf w0 w1 (k + 1).toNat).1 = (eeFi ecS ecP bt ov z116 lv ((ecK iv a b ov bt cf w0 w1 (k).toNat).2.1)).1 := by rw [hK]
                  have hrw125 : gRn 514 ty 36 (eeJ (ecK iv a b ov bt cf w0 w1 (k + 1).toNat).2.1 (ecK iv a b ov bt cf w0 w1 (k + 1).toNat).2.2) hq118 := by rw [hK]; exact yq118_0
                  refine gy_s 2 (pc' := 8) (L' := [some (.ref m), some (.int (zi a)), some (.int (zi b)), some (.int (zi ov)), some (.int (zi bt)), some (.int ((zi k) + zi 1))]) (S' := []) (L2 := [some (.ref m), some (.int (zi a)), some (.int (zi b)), some (.int (zi ov)), some (.int (zi bt)), some (.int (zi (k + 1)))]) (S2 := []) rfl (by simp only [zi_add, zi_sub, zi_mul, zi_neg, zi_and1, zi_and7, zi_and15, zi_and31, zi_and255]) (by simp only [zi_add, zi_sub, zi_mul, zi_neg, zi_and1, zi_and7, zi_and15, zi_and31, zi_and255]) ?_
                  exact gz_wk (ihlp7 hq118 (k + 1) fq118_0 (by omega) sq118 (by omega) (by omega) (by omega) (by omega) s119 s120 s121 efq118_0 pr123 lp7k5 lp7k6 hrw125) (gLw.s (gLw.s (gLw.s (gLw.s (gLw.s (gLw.s gLw.z))))))
                · refine gy_ifF rfl (by decide) (by decide) (by omega) hc124 ?_
                  have hwb126 : ewB ((ecK iv a b ov bt cf w0 w1 (k).toNat).2.2) 3000 := (ewB.of hywb1 (ecK_cnt (n := 257) (by omega) (by omega) (k).toNat).2 (by omega))
                  have hKF : (if 1 ≤ a then a else 1) = 1 := if_neg (by omega)
                  refine gy_s 7 (pc' := 114) (L' := [some (.ref m), some (.int (zi a)), some (.int (zi b)), some (.int (zi ov)), some (.int (zi bt)), some (.int (zi k))]) (S' := [.int (zi bt), .int (zi b), .int (zi 1), .int ((zi 64) * (zi k)), .ref m]) (L2 := [some (.ref m), some (.int (zi a)), some (.int (zi b)), some (.int (zi ov)), some (.int (zi bt)), some (.int (zi k))]) (S2 := [.int (zi bt), .int (zi b), .int (zi 1), .int (zi (64 * k)), .ref m]) rfl (by simp only [zi_add, zi_sub, zi_mul, zi_neg, zi_and1, zi_and7, zi_and15, zi_and31, zi_and255]) (by simp only [zi_add, zi_sub, zi_mul, zi_neg, zi_and1, zi_and7, zi_and15, zi_and31, zi_and255]) ?_
                  refine gz_call rfl (by decide) rfl (by decide) (by decide) (gcal_of rfl rfl rfl (Nat.le_of_ble_eq_true rfl) (gJ.recv (G := gGG) sq118.1 tm rfl rfl)) (mn_putOthers _ sq118.1 m tm (64 * k) (by omega) 1 (by omega) b (by omega) bt (by omega) ic s119 (by omega) mb s120 (by omega) ((eeFi ecS ecP bt ov z116 lv ((ecK iv a b ov bt cf w0 w1 (k).toNat).2.1)).2) ((ecK iv a b ov bt cf w0 w1 (k).toNat).2.2) cf (by omega) (by omega) uq yq118_0 hwb126 pr123) (fun q127 _ wq127 => ?_)
                  obtain ⟨pq127, oq127, hq127⟩ := q127
                  obtain ⟨xq127, gq127, yq127_0⟩ := wq127
                  refine ⟨_, gq127, ?_⟩
                  show gz gPP gGG gcn _ _ 117 [some (.ref m), some (.int (zi a)), some (.int (zi b)), some (.int (zi ov)), some (.int (zi bt)), some (.int (zi k))] [] hq127 _
                  have sq127 := gSs.tr sq118 xq127 (by decide)
                  have s128 := (xq127.2.2.2.2.2 m 67 (by rw [tm]; decide)).trans s119
                  have s129 := (xq127.2.2.2.2.2 m 64 (by rw [tm]; decide)).trans s120
                  have s130 := (xq127.2.2.2.2.2 m 52 (by rw [tm]; decide)).trans s121
                  have s131 := (xq127.2.2.2.2.2 m 63 (by rw [tm]; decide)).trans s122
                  have s132 := (xq127.2.2.2.2.2 m 74 (by rw [tm]; decide)).trans efq118_0
                  have pr133 := gRn.fr xq127.2 (by decide) pr123
                  refine gz_s 1 (pc' := 161) (L' := [some (.ref m), some (.int (zi a)), some (.int (zi b)), some (.int (zi ov)), some (.int (zi bt)), some (.int (zi k))]) (S' := []) rfl ?_
                  have hK : ecK iv a b ov bt cf w0 w1 (k + 1).toNat = ((eeFi ecS ecP bt ov z116 lv ((ecK iv a b ov bt cf w0 w1 (k).toNat).2.1)).1, (eeFi ecS ecP bt ov z116 lv ((ecK iv a b ov bt cf w0 w1 (k).toNat).2.1)).2, eeOt ecS ecP bt cf ((64 * k) + 1).toNat (b - 1 + 1).toNat ((ecK iv a b ov bt cf w0 w1 (k).toNat).2.2)) := by
                    rw [hbn]
                    exact ecK_s (bf := lv) ((ecI_n (by omega) (by intro w; rcases w with ⟨w1, w2, w3⟩; first | omega | exact absurd w3 (by assumption))).trans (by omega)) (ite2_1 (by omega) (by rw [hcv])) (ite3_2 (by omega) (by omega) (by rw [hKF, hi2]))
                  have hK1 : (ecK iv a b ov bt cf w0 w1 (k + 1).toNat).1 = (eeFi ecS ecP bt ov z116 lv ((ecK iv a b ov bt cf w0 w1 (k).toNat).2.1)).1 := by rw [hK]
                  have hrw134 : gRn 514 ty 36 (eeJ (ecK iv a b ov bt cf w0 w1 (k + 1).toNat).2.1 (ecK iv a b ov bt cf w0 w1 (k + 1).toNat).2.2) hq127 := by rw [hK]; exact yq127_0
                  refine gy_s 2 (pc' := 8) (L' := [some (.ref m), some (.int (zi a)), some (.int (zi b)), some (.int (zi ov)), some (.int (zi bt)), some (.int ((zi k) + zi 1))]) (S' := []) (L2 := [some (.ref m), some (.int (zi a)), some (.int (zi b)), some (.int (zi ov)), some (.int (zi bt)), some (.int (zi (k + 1)))]) (S2 := []) rfl (by simp only [zi_add, zi_sub, zi_mul, zi_neg, zi_and1, zi_and7, zi_and15, zi_and31, zi_and255]) (by simp only [zi_add, zi_sub, zi_mul, zi_neg, zi_and1, zi_and7, zi_and15, zi_and31, zi_and255]) ?_
                  exact gz_wk (ihlp7 hq127 (k + 1) fq118_0 (by omega) sq127 (by omega) (by omega) (by omega) (by omega) s128 s129 s130 s132 pr133 lp7k5 lp7k6 hrw134) (gLw.s (gLw.s (gLw.s (gLw.s (gLw.s (gLw.s gLw.z))))))
            · refine gy_ifF rfl (by decide) (by decide) (by omega) hc94 ?_
              refine gz_s 2 (pc' := 41) (L' := [some (.ref m), some (.int (zi a)), some (.int (zi b)), some (.int (zi ov)), some (.int (zi bt)), some (.int (zi k))]) (S' := [.int (zi 0), .ref m]) rfl ?_
              refine gs_put rfl (by decide) rfl sh8 tm rfl rfl rfl rfl (Or.inl rfl) (by decide) (by omega) (by omega) (fun h135 sh135 eh135 fh135 => ?_)
              have pr136 := gRn.pt fh135 tm (by decide) lp7k4
              have pr137 := gRn.pt fh135 tm (by decide) lp7k7
              have s138 := (fh135 m 67 (fun q => absurd q.2 (by decide))).trans lp7k0
              have s139 := (fh135 m 64 (fun q => absurd q.2 (by decide))).trans lp7k1
              have s140 := (fh135 m 52 (fun q => absurd q.2 (by decide))).trans lp7k2
              refine gz_s 1 (pc' := 45) (L' := [some (.ref m), some (.int (zi a)), some (.int (zi b)), some (.int (zi ov)), some (.int (zi bt)), some (.int (zi k))]) (S' := [.ref m]) rfl ?_
              refine gs_gtk rfl (by decide) rfl sh135.1 tm rfl rfl s138 ?_
              refine gy_ifT (pc' := 75) rfl (by decide) (by decide) (by omega) (by first | (simp [zc]; done) | (simp only [zc]; omega)) ?_
              refine gz_s 1 (pc' := 76) (L' := [some (.ref m), some (.int (zi a)), some (.int (zi b)), some (.int (zi ov)), some (.int (zi bt)), some (.int (zi k))]) (S' := [.int (zi a)]) rfl ?_
              by_cases hc141 : ¬ (a : Int) = 0
              · refine gy_ifT (pc' := 96) rfl (by decide) (by decide) (by omega) hc141 ?_
                refine gz_s 1 (pc' := 97) (L' := [some (.ref m), some (.int (zi a)), some (.int (zi b)), some (.int (zi ov)), some (.int (zi bt)), some (.int (zi k))]) (S' := [.int (zi a)]) rfl ?_
                refine gy_ifT (pc' := 120) rfl (by decide) (by decide) (by omega) (by first | (simp [zc]; done) | (simp only [zc]; omega)) ?_
                refine gz_s 1 (pc' := 121) (L' := [some (.ref m), some (.int (zi a)), some (.int (zi b)), some (.int (zi ov)), some (.int (zi bt)), some (.int (zi k))]) (S' := [.int (zi a)]) rfl ?_
                refine gy_ifF rfl (by decide) (by decide) (by omega) (by first | (simp [zc]; done) | (simp only [zc]; omega)) ?_
                refine gz_s 1 (pc' := 125) (L' := [some (.ref m), some (.int (zi a)), some (.int (zi b)), some (.int (zi ov)), some (.int (zi bt)), some (.int (zi k))]) (S' := [.int (zi ov)]) rfl ?_
                by_cases hc142 : ¬ (ov : Int) = 0
                · refine gy_ifT (pc' := 144) rfl (by decide) (by decide) (by omega) hc142 ?_
                  refine gz_s 1 (pc' := 145) (L' := [some (.ref m), some (.int (zi a)), some (.int (zi b)), some (.int (zi ov)), some (.int (zi bt)), some (.int (zi k))]) (S' := [.int (zi a)]) rfl ?_
                  refine gy_ifF rfl (by decide) (by decide) (by omega) (by first | (simp [zc]; done) | (simp only [zc]; omega)) ?_
                  have hwb143 : ewB ((ecK iv a b ov bt cf w0 w1 (k).toNat).2.2) 3000 := (ewB.of hywb1 (ecK_cnt (n := 257) (by omega) (by omega) (k).toNat).2 (by omega))
                  have hKF : (if 1 ≤ a then a else 1) = a := if_pos (by omega)
                  refine gy_s 7 (pc' := 158) (L' := [some (.ref m), some (.int (zi a)), some (.int (zi b)), some (.int (zi ov)), some (.int (zi bt)), some (.int (zi k))]) (S' := [.int (zi bt), .int (zi b), .int (zi a), .int ((zi 64) * (zi k)), .ref m]) (L2 := [some (.ref m), some (.int (zi a)), some (.int (zi b)), some (.int (zi ov)), some (.int (zi bt)), some (.int (zi k))]) (S2 := [.int (zi bt), .int (zi b), .int (zi a), .int (zi (64 * k)), .ref m]) rfl (by simp only [zi_add, zi_sub, zi_mul, zi_neg, zi_and1, zi_and7, zi_and15, zi_and31, zi_and255]) (by simp only [zi_add, zi_sub, zi_mul, zi_neg, zi_and1, zi_and7, zi_and15, zi_and31, zi_and255]) ?_
                  refine gz_call rfl (by decide) rfl (by decide) (by decide) (gcal_of rfl rfl rfl (Nat.le_of_ble_eq_true rfl) (gJ.recv (G := gGG) sh135.1 tm rfl rfl)) (mn_putMore _ sh135.1 m tm (64 * k) (by omega) a (by omega) b (by omega) bt (by omega) ic s138 (by omega) mb s139 (by omega) ((ecK iv a b ov bt cf w0 w1 (k).toNat).2.1) ((ecK iv a b ov bt cf w0 w1 (k).toNat).2.2) cf (by omega) (by omega) uq pr137 hwb143 pr136) (fun q144 _ wq144 => ?_)
                  obtain ⟨pq144, oq144, hq144⟩ := q144
                  obtain ⟨xq144, gq144, yq144_0⟩ := wq144
                  refine ⟨_, gq144, ?_⟩
                  show gz gPP gGG gcn _ _ 161 [some (.ref m), some (.int (zi a)), some (.int (zi b)), some (.int (zi ov)), some (.int (zi bt)), some (.int (zi k))] [] hq144 _
                  have sq144 := gSs.tr sh135 xq144 (by decide)
                  have s145 := (xq144.2.2.2.2.2 m 67 (by rw [tm]; decide)).trans s138
                  have s146 := (xq144.2.2.2.2.2 m 64 (by rw [tm]; decide)).trans s139
                  have s147 := (xq144.2.2.2.2.2 m 52 (by rw [tm]; decide)).trans s140
                  have s148 := (xq144.2.2.2.2.2 m 74 (by rw [tm]; decide)).trans eh135
                  have pr149 := gRn.fr xq144.2 (by decide) pr136
                  have hK : ecK iv a b ov bt cf w0 w1 (k + 1).toNat = ((0, (ecK iv a b ov bt cf w0 w1 (k).toNat).2.1).1, (0, (ecK iv a b ov bt cf w0 w1 (k).toNat).2.1).2, eeRz ecS ecP bt cf (64 * k) a b ((ecK iv a b ov bt cf w0 w1 (k).toNat).2.2)) := by
                    rw [hbn]
                    exact ecK_s (bf := 0) (ecI_y (by omega) (by omega) (by first | assumption | exact Decidable.not_not.mp (by assumption))) (ite2_2 (by omega) rfl) (ite3_1 ⟨by omega, by omega⟩ (by unfold eeRz; rw [hi1]))
                  have hK1 : (ecK iv a b ov bt cf w0 w1 (k + 1).toNat).1 = (0, (ecK iv a b ov bt cf w0 w1 (k).toNat).2.1).1 := by rw [hK]
                  have hrw150 : gRn 514 ty 36 (eeJ (ecK iv a b ov bt cf w0 w1 (k + 1).toNat).2.1 (ecK iv a b ov bt cf w0 w1 (k + 1).toNat).2.2) hq144 := by rw [hK]; exact yq144_0
                  have hK2 : ((0, (ecK iv a b ov bt cf w0 w1 (k).toNat).2.1)).1 = 0 := rfl
                  refine gy_s 2 (pc' := 8) (L' := [some (.ref m), some (.int (zi a)), some (.int (zi b)), some (.int (zi ov)), some (.int (zi bt)), some (.int ((zi k) + zi 1))]) (S' := []) (L2 := [some (.ref m), some (.int (zi a)), some (.int (zi b)), some (.int (zi ov)), some (.int (zi bt)), some (.int (zi (k + 1)))]) (S2 := []) rfl (by simp only [zi_add, zi_sub, zi_mul, zi_neg, zi_and1, zi_and7, zi_and15, zi_and31, zi_and255]) (by simp only [zi_add, zi_sub, zi_mul, zi_neg, zi_and1, zi_and7, zi_and15, zi_and31, zi_and255]) ?_
                  exact gz_wk (ihlp7 hq144 (k + 1) 0 (by omega) sq144 (by omega) (by omega) (by omega) (by omega) s145 s146 s147 s148 pr149 lp7k5 lp7k6 hrw150) (gLw.s (gLw.s (gLw.s (gLw.s (gLw.s (gLw.s gLw.z))))))
                · refine gy_ifF rfl (by decide) (by decide) (by omega) hc142 ?_
                  have hwb151 : ewB ((ecK iv a b ov bt cf w0 w1 (k).toNat).2.2) 3000 := (ewB.of hywb1 (ecK_cnt (n := 257) (by omega) (by omega) (k).toNat).2 (by omega))
                  have hKF : (if 1 ≤ a then a else 1) = a := if_pos (by omega)
                  refine gy_s 7 (pc' := 138) (L' := [some (.ref m), some (.int (zi a)), some (.int (zi b)), some (.int (zi ov)), some (.int (zi bt)), some (.int (zi k))]) (S' := [.int (zi bt), .int (zi b), .int (zi a), .int ((zi 64) * (zi k)), .ref m]) (L2 := [some (.ref m), some (.int (zi a)), some (.int (zi b)), some (.int (zi ov)), some (.int (zi bt)), some (.int (zi k))]) (S2 := [.int (zi bt), .int (zi b), .int (zi a), .int (zi (64 * k)), .ref m]) rfl (by simp only [zi_add, zi_sub, zi_mul, zi_neg, zi_and1, zi_and7, zi_and15, zi_and31, zi_and255]) (by simp only [zi_add, zi_sub, zi_mul, zi_neg, zi_and1, zi_and7, zi_and15, zi_and31, zi_and255]) ?_
                  refine gz_call rfl (by decide) rfl (by decide) (by decide) (gcal_of rfl rfl rfl (Nat.le_of_ble_eq_true rfl) (gJ.recv (G := gGG) sh135.1 tm rfl rfl)) (mn_putOthers _ sh135.1 m tm (64 * k) (by omega) a (by omega) b (by omega) bt (by omega) ic s138 (by omega) mb s139 (by omega) ((ecK iv a b ov bt cf w0 w1 (k).toNat).2.1) ((ecK iv a b ov bt cf w0 w1 (k).toNat).2.2) cf (by omega) (by omega) uq pr137 hwb151 pr136) (fun q152 _ wq152 => ?_)
                  obtain ⟨pq152, oq152, hq152⟩ := q152
                  obtain ⟨xq152, gq152, yq152_0⟩ := wq152
                  refine ⟨_, gq152, ?_⟩
                  show gz gPP gGG gcn _ _ 141 [some (.ref m), some (.int (zi a)), some (.int (zi b)), some (.int (zi ov)), some (.int (zi bt)), some (.int (zi k))] [] hq152 _
                  have sq152 := gSs.tr sh135 xq152 (by decide)
                  have s153 := (xq152.2.2.2.2.2 m 67 (by rw [tm]; decide)).trans s138
                  have s154 := (xq152.2.2.2.2.2 m 64 (by rw [tm]; decide)).trans s139
                  have s155 := (xq152.2.2.2.2.2 m 52 (by rw [tm]; decide)).trans s140
                  have s156 := (xq152.2.2.2.2.2 m 74 (by rw [tm]; decide)).trans eh135
                  have pr157 := gRn.fr xq152.2 (by decide) pr136
                  refine gz_s 1 (pc' := 161) (L' := [some (.ref m), some (.int (zi a)), some (.int (zi b)), some (.int (zi ov)), some (.int (zi bt)), some (.int (zi k))]) (S' := []) rfl ?_
                  have hK : ecK iv a b ov bt cf w0 w1 (k + 1).toNat = ((0, (ecK iv a b ov bt cf w0 w1 (k).toNat).2.1).1, (0, (ecK iv a b ov bt cf w0 w1 (k).toNat).2.1).2, eeOt ecS ecP bt cf ((64 * k) + a).toNat (b - a + 1).toNat ((ecK iv a b ov bt cf w0 w1 (k).toNat).2.2)) := by
                    rw [hbn]
                    exact ecK_s (bf := 0) (ecI_y (by omega) (by omega) (by first | assumption | exact Decidable.not_not.mp (by assumption))) (ite2_2 (by omega) rfl) (ite3_2 (by omega) (by omega) (by rw [hKF, hi1]))
                  have hK1 : (ecK iv a b ov bt cf w0 w1 (k + 1).toNat).1 = (0, (ecK iv a b ov bt cf w0 w1 (k).toNat).2.1).1 := by rw [hK]
                  have hrw158 : gRn 514 ty 36 (eeJ (ecK iv a b ov bt cf w0 w1 (k + 1).toNat).2.1 (ecK iv a b ov bt cf w0 w1 (k + 1).toNat).2.2) hq152 := by rw [hK]; exact yq152_0
                  have hK2 : ((0, (ecK iv a b ov bt cf w0 w1 (k).toNat).2.1)).1 = 0 := rfl
                  refine gy_s 2 (pc' := 8) (L' := [some (.ref m), some (.int (zi a)), some (.int (zi b)), some (.int (zi ov)), some (.int (zi bt)), some (.int ((zi k) + zi 1))]) (S' := []) (L2 := [some (.ref m), some (.int (zi a)), some (.int (zi b)), some (.int (zi ov)), some (.int (zi bt)), some (.int (zi (k + 1)))]) (S2 := []) rfl (by simp only [zi_add, zi_sub, zi_mul, zi_neg, zi_and1, zi_and7, zi_and15, zi_and31, zi_and255]) (by simp only [zi_add, zi_sub, zi_mul, zi_neg, zi_and1, zi_and7, zi_and15, zi_and31, zi_and255]) ?_
                  exact gz_wk (ihlp7 hq152 (k + 1) 0 (by omega) sq152 (by omega) (by omega) (by omega) (by omega) s153 s154 s155 s156 pr157 lp7k5 lp7k6 hrw158) (gLw.s (gLw.s (gLw.s (gLw.s (gLw.s (gLw.s gLw.z))))))
              · refine gy_ifF rfl (by decide) (by decide) (by omega) hc141 ?_
                have hwb159 : ewB ((ecK iv a b ov bt cf w0 w1 (k).toNat).2.1) 3000 := (ewB.of hywb0 (ecK_cnt (n := 257) (by omega) (by omega) (k).toNat).1 (by omega))
                refine gz_s 2 (pc' := 81) (L' := [some (.ref m), some (.int (zi a)), some (.int (zi b)), some (.int (zi ov)), some (.int (zi bt)), some (.int (zi k))]) (S' := [.ref m, .ref m]) rfl ?_
                refine gs_gtr rfl (by decide) rfl sh135.1 tm rfl rfl rfl (fun c160 ec160 tc160 => ?_)
                refine gy_s 3 (pc' := 89) (L' := [some (.ref m), some (.int (zi a)), some (.int (zi b)), some (.int (zi ov)), some (.int (zi bt)), some (.int (zi k))]) (S' := [.int ((zi 64) * (zi k)), .ref c160, .ref m]) (L2 := [some (.ref m), some (.int (zi a)), some (.int (zi b)), some (.int (zi ov)), some (.int (zi bt)), some (.int (zi k))]) (S2 := [.int (zi (64 * k)), .ref c160, .ref m]) rfl (by simp only [zi_add, zi_sub, zi_mul, zi_neg, zi_and1, zi_and7, zi_and15, zi_and31, zi_and255]) (by simp only [zi_add, zi_sub, zi_mul, zi_neg, zi_and1, zi_and7, zi_and15, zi_and31, zi_and255]) ?_
                have hl161 : 1024 ≤ h135.2.2.2.1 c160 ∧ h135.2.2.2.1 c160 ≤ 1024 := gJ.rowl (G := gGG) sh135.1 tc160 rfl
                refine gs_ald rfl (by decide) sh135.1 tc160 rfl rfl rfl (by decide) (fun _ => rfl) (by omega) (by omega) (fun z162 ez162 az162 bz162 => ?_)
                have hf163 := gRn.at (i := 64 * k) (z := z162) pr136 tc160 ez162 (by omega) (by omega) (by omega)
                have hcv : cf (64 * (k).toNat) = z162 := by rw [← hi0]; exact hf163
                refine gz_s 2 (pc' := 93) (L' := [some (.ref m), some (.int (zi a)), some (.int (zi b)), some (.int (zi ov)), some (.int (zi bt)), some (.int (zi k))]) (S' := [.int (zi bt), .int (zi ov), .int (zi z162), .ref m]) rfl ?_
                refine gz_call rfl (by decide) rfl (by decide) (by decide) (gcal_of rfl rfl rfl (Nat.le_of_ble_eq_true rfl) (gJ.recv (G := gGG) sh135.1 tm rfl rfl)) (mn_putFirst _ sh135.1 m tm z162 (by omega) ov (by omega) bt (by omega) ic s138 (by omega) 0 eh135 (by omega) ((ecK iv a b ov bt cf w0 w1 (k).toNat).2.1) ((ecK iv a b ov bt cf w0 w1 (k).toNat).2.2) uq pr137 hwb159) (fun q164 _ wq164 => ?_)
                obtain ⟨pq164, oq164, hq164⟩ := q164
                obtain ⟨xq164, fq164_0, gq164, efq164_0, afq164_0, bfq164_0, uq164_0, yq164_0⟩ := wq164
                refine ⟨_, gq164, ?_⟩
                show gz gPP gGG gcn _ _ 96 [some (.ref m), some (.int (zi a)), some (.int (zi b)), some (.int (zi ov)), some (.int (zi bt)), some (.int (zi k))] [] hq164 _
                have sq164 := gSs.tr sh135 xq164 (by decide)
                have s165 := (xq164.2.2.2.2.2 m 67 (by rw [tm]; decide)).trans s138
                have s166 := (xq164.2.2.2.2.2 m 64 (by rw [tm]; decide)).trans s139
                have s167 := (xq164.2.2.2.2.2 m 52 (by rw [tm]; decide)).trans s140
                have s168 := (xq164.2.2.2.2.2 m 63 (by rw [tm]; decide)).trans ec160
                have pr169 := gRn.fr xq164.2 (by decide) pr136
                refine gz_s 1 (pc' := 97) (L' := [some (.ref m), some (.int (zi a)), some (.int (zi b)), some (.int (zi ov)), some (.int (zi bt)), some (.int (zi k))]) (S' := [.int (zi a)]) rfl ?_
                refine gy_ifF rfl (by decide) (by decide) (by omega) (by first | (simp [zc]; done) | (simp only [zc]; omega)) ?_
                refine gz_s 1 (pc' := 101) (L' := [some (.ref m), some (.int (zi a)), some (.int (zi b)), some (.int (zi ov)), some (.int (zi bt)), some (.int (zi k))]) (S' := [.int (zi b)]) rfl ?_
                by_cases hc170 : (b : Int) ≤ 0
                · refine gy_ifT (pc' := 120) rfl (by decide) (by decide) (by omega) hc170 ?_
                  refine gz_s 1 (pc' := 121) (L' := [some (.ref m), some (.int (zi a)), some (.int (zi b)), some (.int (zi ov)), some (.int (zi bt)), some (.int (zi k))]) (S' := [.int (zi a)]) rfl ?_
                  refine gy_ifT (pc' := 144) rfl (by decide) (by decide) (by omega) (by first | (simp [zc]; done) | (simp only [zc]; omega)) ?_
                  refine gz_s 1 (pc' := 145) (L' := [some (.ref m), some (.int (zi a)), some (.int (zi b)), some (.int (zi ov)), some (.int (zi bt)), some (.int (zi k))]) (S' := [.int (zi a)]) rfl ?_
                  refine gy_ifT (pc' := 161) rfl (by decide) (by decide) (by omega) (by first | (simp [zc]; done) | (simp only [zc]; omega)) ?_
                  have hK : ecK iv a b ov bt cf w0 w1 (k + 1).toNat = ((eeFi ecS ecP bt ov z162 0 ((ecK iv a b ov bt cf w0 w1 (k).toNat).2.1)).1, (eeFi ecS ecP bt ov z162 0 ((ecK iv a b ov bt cf w0 w1 (k).toNat).2.1)).2, (ecK iv a b ov bt cf w0 w1 (k).toNat).2.2) := by
                    rw [hbn]
                    exact ecK_s (bf := 0) (ecI_y (by omega) (by omega) (by first | assumption | exact Decidable.not_not.mp (by assumption))) (ite2_1 (by omega) (by rw [hcv])) (ite3_3 (by omega) (by omega) rfl)
                  have hK1 : (ecK iv a b ov bt cf w0 w1 (k + 1).toNat).1 = (eeFi ecS ecP bt ov z162 0 ((ecK iv a b ov bt cf w0 w1 (k).toNat).2.1)).1 := by rw [hK]
                  have hrw171 : gRn 514 ty 36 (eeJ (ecK iv a b ov bt cf w0 w1 (k + 1).toNat).2.1 (ecK iv a b ov bt cf w0 w1 (k + 1).toNat).2.2) hq164 := by rw [hK]; exact yq164_0
                  refine gy_s 2 (pc' := 8) (L' := [some (.ref m), some (.int (zi a)), some (.int (zi b)), some (.int (zi ov)), some (.int (zi bt)), some (.int ((zi k) + zi 1))]) (S' := []) (L2 := [some (.ref m), some (.int (zi a)), some (.int (zi b)), some (.int (zi ov)), some (.int (zi bt)), some (.int (zi (k + 1)))]) (S2 := []) rfl (by simp only [zi_add, zi_sub, zi_mul, zi_neg, zi_and1, zi_and7, zi_and15, zi_and31, zi_and255]) (by simp only [zi_add, zi_sub, zi_mul, zi_neg, zi_and1, zi_and7, zi_and15, zi_and31, zi_and255]) ?_
                  exact gz_wk (ihlp7 hq164 (k + 1) fq164_0 (by omega) sq164 (by omega) (by omega) (by omega) (by omega) s165 s166 s167 efq164_0 pr169 lp7k5 lp7k6 hrw171) (gLw.s (gLw.s (gLw.s (gLw.s (gLw.s (gLw.s gLw.z))))))
                · refine gy_ifF rfl (by decide) (by decide) (by omega) hc170 ?_
                  have hwb172 : ewB ((ecK iv a b ov bt cf w0 w1 (k).toNat).2.2) 3000 := (ewB.of hywb1 (ecK_cnt (n := 257) (by omega) (by omega) (k).toNat).2 (by omega))
                  have hKF : (if 1 ≤ a then a else 1) = 1 := if_neg (by omega)
                  refine gy_s 7 (pc' := 114) (L' := [some (.ref m), some (.int (zi a)), some (.int (zi b)), some (.int (zi ov)), some (.int (zi bt)), some (.int (zi k))]) (S' := [.int (zi bt), .int (zi b), .int (zi 1), .int ((zi 64) * (zi k)), .ref m]) (L2 := [some (.ref m), some (.int (zi a)), some (.int (zi b)), some (.int (zi ov)), some (.int (zi bt)), some (.int (zi k))]) (S2 := [.int (zi bt), .int (zi b), .int (zi 1), .int (zi (64 * k)), .ref m]) rfl (by simp only [zi_add, zi_sub, zi_mul, zi_neg, zi_and1, zi_and7, zi_and15, zi_and31, zi_and255]) (by simp only [zi_add, zi_sub, zi_mul, zi_neg, zi_and1, zi_and7, zi_and15, zi_and31, zi_and255]) ?_
                  refine gz_call rfl (by decide) rfl (by decide) (by decide) (gcal_of rfl rfl rfl (Nat.le_of_ble_eq_true rfl) (gJ.recv (G := gGG) sq164.1 tm rfl rfl)) (mn_putOthers _ sq164.1 m tm (64 * k) (by omega) 1 (by omega) b (by omega) bt (by omega) ic s165 (by omega) mb s166 (by omega) ((eeFi ecS ecP bt ov z162 0 ((ecK iv a b ov bt cf w0 w1 (k).toNat).2.1)).2) ((ecK iv a b ov bt cf w0 w1 (k).toNat).2.2) cf (by omega) (by omega) uq yq164_0 hwb172 pr169) (fun q173 _ wq173 => ?_)
                  obtain ⟨pq173, oq173, hq173⟩ := q173
                  obtain ⟨xq173, gq173, yq173_0⟩ := wq173
                  refine ⟨_, gq173, ?_⟩
                  show gz gPP gGG gcn _ _ 117 [some (.ref m), some (.int (zi a)), some (.int (zi b)), some (.int (zi ov)), some (.int (zi bt)), some (.int (zi k))] [] hq173 _
                  have sq173 := gSs.tr sq164 xq173 (by decide)
                  have s174 := (xq173.2.2.2.2.2 m 67 (by rw [tm]; decide)).trans s165
                  have s175 := (xq173.2.2.2.2.2 m 64 (by rw [tm]; decide)).trans s166
                  have s176 := (xq173.2.2.2.2.2 m 52 (by rw [tm]; decide)).trans s167
                  have s177 := (xq173.2.2.2.2.2 m 63 (by rw [tm]; decide)).trans s168
                  have s178 := (xq173.2.2.2.2.2 m 74 (by rw [tm]; decide)).trans efq164_0
                  have pr179 := gRn.fr xq173.2 (by decide) pr169
                  refine gz_s 1 (pc' := 161) (L' := [some (.ref m), some (.int (zi a)), some (.int (zi b)), some (.int (zi ov)), some (.int (zi bt)), some (.int (zi k))]) (S' := []) rfl ?_
                  have hK : ecK iv a b ov bt cf w0 w1 (k + 1).toNat = ((eeFi ecS ecP bt ov z162 0 ((ecK iv a b ov bt cf w0 w1 (k).toNat).2.1)).1, (eeFi ecS ecP bt ov z162 0 ((ecK iv a b ov bt cf w0 w1 (k).toNat).2.1)).2, eeOt ecS ecP bt cf ((64 * k) + 1).toNat (b - 1 + 1).toNat ((ecK iv a b ov bt cf w0 w1 (k).toNat).2.2)) := by
                    rw [hbn]
                    exact ecK_s (bf := 0) (ecI_y (by omega) (by omega) (by first | assumption | exact Decidable.not_not.mp (by assumption))) (ite2_1 (by omega) (by rw [hcv])) (ite3_2 (by omega) (by omega) (by rw [hKF, hi2]))
                  have hK1 : (ecK iv a b ov bt cf w0 w1 (k + 1).toNat).1 = (eeFi ecS ecP bt ov z162 0 ((ecK iv a b ov bt cf w0 w1 (k).toNat).2.1)).1 := by rw [hK]
                  have hrw180 : gRn 514 ty 36 (eeJ (ecK iv a b ov bt cf w0 w1 (k + 1).toNat).2.1 (ecK iv a b ov bt cf w0 w1 (k + 1).toNat).2.2) hq173 := by rw [hK]; exact yq173_0
                  refine gy_s 2 (pc' := 8) (L' := [some (.ref m), some (.int (zi a)), some (.int (zi b)), some (.int (zi ov)), some (.int (zi bt)), some (.int ((zi k) + zi 1))]) (S' := []) (L2 := [some (.ref m), some (.int (zi a)), some (.int (zi b)), some (.int (zi ov)), some (.int (zi bt)), some (.int (zi (k + 1)))]) (S2 := []) rfl (by simp only [zi_add, zi_sub, zi_mul, zi_neg, zi_and1, zi_and7, zi_and15, zi_and31, zi_and255]) (by simp only [zi_add, zi_sub, zi_mul, zi_neg, zi_and1, zi_and7, zi_and15, zi_and31, zi_and255]) ?_
                  exact gz_wk (ihlp7 hq173 (k + 1) fq164_0 (by omega) sq173 (by omega) (by omega) (by omega) (by omega) s174 s175 s176 s178 pr179 lp7k5 lp7k6 hrw180) (gLw.s (gLw.s (gLw.s (gLw.s (gLw.s (gLw.s gLw.z))))))
  have hK0 : (ecK iv a b ov bt cf w0 w1 (0 : Int).toNat).1 = 0 := rfl
  exact gz_wk (lp7 _ h1 0 0 (Nat.lt_succ_self _) sh1 (by omega) (by omega) (by omega) (by omega) s4 s5 s6 eh1 pr2 hywb0 hywb1 (show gRn 514 ty 36 (eeJ (ecK iv a b ov bt cf w0 w1 (0 : Int).toNat).2.1 (ecK iv a b ov bt cf w0 w1 (0 : Int).toNat).2.2) h1 from pr3)) (gLw.s (gLw.s (gLw.s (gLw.s (gLw.s (gLw.s gLw.z))))))
