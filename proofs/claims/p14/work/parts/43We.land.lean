/-! ===== methods of the landed text (by program) ===== -/
set_option maxRecDepth 20000 in
set_option maxHeartbeats 4000000 in
theorem cn_putBlocks (d : Nat) {ty : Nat → Nat} {h : gH} (hJ : gJ rT 1027 ty h) (x : Nat) (tx : ty x = 71) (cg : Int) (ecg : h.2.2.2.2 x 11 = .int (zi cg)) (rcg : 1 ≤ cg ∧ cg ≤ 1) (fr : Int) (efr : h.2.2.2.2 x 7 = .int (zi fr)) (rfr : 0 ≤ fr ∧ fr ≤ 63) (tt : Int) (ett : h.2.2.2.2 x 8 = .int (zi tt)) (rtt : 0 ≤ tt ∧ tt ≤ 63) (hg : Int) (ehg : h.2.2.2.2 x 9 = .int (zi hg)) (rhg : 0 ≤ hg ∧ hg ≤ 4) (lw : Int) (elw : h.2.2.2.2 x 10 = .int (zi lw)) (rlw : 0 ≤ lw ∧ lw ≤ 3) (bs : Int) (ebs : h.2.2.2.2 x 5 = .int (zi bs)) (rbs : 0 ≤ bs ∧ bs ≤ 16) (iv : Int) (eiv : h.2.2.2.2 x 6 = .int (zi iv)) (riv : 0 ≤ iv ∧ iv ≤ 100) (cf w0 w1 : Nat → Int) (pp0 : fr ≤ tt) (pp1 : fr = 0 → (tt = 0 ∨ hg = 0)) (uq : gUq ty) (hyf73 : gRn (64 * bs).toNat ty 73 cf h) (hyf97 : gRn 257 ty 97 w0 h) (hyf80 : gRn 257 ty 80 w1 h) (hywb0 : ewB w0 100) (hywb1 : ewB w1 100) : gz gPP gGG gcn (d + 3) gt106 0 (gent [.ref x] 2) [] h (fun q _ => gSs rT 1027 ty [71012, 71013, 71014, 80999, 97999] h q.2.2 ∧ gfin gt106 q.1 q.2.1 = some none ∧ (gRn 257 ty 97 ((ecK iv fr tt hg lw cf w0 w1 (bs).toNat).2.1) q.2.2) ∧ (gRn 257 ty 80 ((ecK iv fr tt hg lw cf w0 w1 (bs).toNat).2.2) q.2.2)) := by
  have hS : gSs rT 1027 ty [71012, 71013, 71014, 80999, 97999] h h := gSs.rf hJ
  refine gz_s 2 (pc' := 2) (L' := [some (.ref x), none]) (S' := [.int (zi 0), .ref x]) rfl ?_
  refine gs_put rfl (by decide) rfl hS tx rfl rfl rfl rfl (Or.inl rfl) (by decide) (by omega) (by omega) (fun h1 sh1 eh1 fh1 => ?_)
  have pr2 := gRn.pt fh1 tx (by decide) hyf73
  have pr3 := gRn.pt fh1 tx (by decide) hyf97
  have pr4 := gRn.pt fh1 tx (by decide) hyf80
  have s5 := (fh1 x 11 (fun q => absurd q.2 (by decide))).trans ecg
  have s6 := (fh1 x 7 (fun q => absurd q.2 (by decide))).trans efr
  have s7 := (fh1 x 8 (fun q => absurd q.2 (by decide))).trans ett
  have s8 := (fh1 x 9 (fun q => absurd q.2 (by decide))).trans ehg
  have s9 := (fh1 x 10 (fun q => absurd q.2 (by decide))).trans elw
  have s10 := (fh1 x 5 (fun q => absurd q.2 (by decide))).trans ebs
  have s11 := (fh1 x 6 (fun q => absurd q.2 (by decide))).trans eiv
  refine gz_s 2 (pc' := 7) (L' := [some (.ref x), some (.int (zi 0))]) (S' := []) rfl ?_
  have lp12 : ∀ (fu : Nat) (h13 : gH) (b : Int) (bv : Int), (17 - b).toNat < fu → gSs rT 1027 ty [71012, 71013, 71014, 80999, 97999] h h13 → (0 ≤ b ∧ b ≤ 16) → ((-2048) ≤ bv ∧ bv ≤ 2048) → (b ≤ bs) → (bv = (ecK iv fr tt hg lw cf w0 w1 (b).toNat).1) → h13.2.2.2.2 x 11 = .int (zi cg) → h13.2.2.2.2 x 7 = .int (zi fr) → h13.2.2.2.2 x 8 = .int (zi tt) → h13.2.2.2.2 x 9 = .int (zi hg) → h13.2.2.2.2 x 10 = .int (zi lw) → h13.2.2.2.2 x 5 = .int (zi bs) → h13.2.2.2.2 x 6 = .int (zi iv) → h13.2.2.2.2 x 12 = .int (zi bv) → gRn (64 * bs).toNat ty 73 cf h13 → ewB w0 100 → ewB w1 100 → gRn 257 ty 97 ((ecK iv fr tt hg lw cf w0 w1 (b).toNat).2.1) h13 → gRn 257 ty 80 ((ecK iv fr tt hg lw cf w0 w1 (b).toNat).2.2) h13 → gz gPP gGG gcn (d + 3) gt106 7 [some (.ref x), some (.int (zi b))] [] h13 (fun q _ => gSs rT 1027 ty [71012, 71013, 71014, 80999, 97999] h q.2.2 ∧ gfin gt106 q.1 q.2.1 = some none ∧ (gRn 257 ty 97 ((ecK iv fr tt hg lw cf w0 w1 (bs).toNat).2.1) q.2.2) ∧ (gRn 257 ty 80 ((ecK iv fr tt hg lw cf w0 w1 (bs).toNat).2.2) q.2.2)) := by
    intro fu
    induction fu with
    | zero => intro h13 b bv hm; exact absurd hm (Nat.not_lt_zero _)
    | succ fu ihlp12 =>
      intro h13 b bv lp12m sh13 lp12f0 lp12f1 lp12f2 lp12f3 lp12k0 lp12k1 lp12k2 lp12k3 lp12k4 lp12k5 lp12k6 lp12k7 lp12k8 lp12k9 lp12k10 lp12k11 lp12k12
      refine gz_s 2 (pc' := 9) (L' := [some (.ref x), some (.int (zi b))]) (S' := [.ref x, .int (zi b)]) rfl ?_
      refine gs_gtk rfl (by decide) rfl sh13.1 tx rfl rfl lp12k5 ?_
      by_cases hc14 : (bs : Int) ≤ b
      · refine gy_icT (pc' := 113) rfl (by decide) (by decide) (by omega) (by omega) hc14 ?_
        have hrw15 : gRn 257 ty 97 ((ecK iv fr tt hg lw cf w0 w1 (bs).toNat).2.1) h13 := by rw [show bs = b by omega]; exact lp12k11
        have hrw16 : gRn 257 ty 80 ((ecK iv fr tt hg lw cf w0 w1 (bs).toNat).2.2) h13 := by rw [show bs = b by omega]; exact lp12k12
        exact gz_end (I := .return_) (len := 1) rfl (Or.inl rfl) ⟨sh13, rfl, hrw15, hrw16⟩
      · refine gy_icF rfl (by decide) (by decide) (by omega) (by omega) hc14 ?_
        have hi0 : (b * 64).toNat = 64 * (b).toNat := by omega
        have hi1 : ((b * 64) + fr).toNat = 64 * (b).toNat + fr.toNat := by omega
        have hi2 : ((b * 64) + (if 1 ≤ fr then fr else 1)).toNat = 64 * (b).toNat + ((if 1 ≤ fr then fr else 1)).toNat := by omega
        have hbn : (b + 1).toNat = (b).toNat + 1 := by omega
        refine gz_s 1 (pc' := 16) (L' := [some (.ref x), some (.int (zi b))]) (S' := [.ref x]) rfl ?_
        refine gs_gtk rfl (by decide) rfl sh13.1 tx rfl rfl lp12k6 ?_
        by_cases hc17 : (iv : Int) ≤ 0
        · refine gy_ifT (pc' := 52) rfl (by decide) (by decide) (by omega) hc17 ?_
          refine gz_s 1 (pc' := 53) (L' := [some (.ref x), some (.int (zi b))]) (S' := [.ref x]) rfl ?_
          refine gs_gtk rfl (by decide) rfl sh13.1 tx rfl rfl lp12k1 ?_
          by_cases hc18 : ¬ (fr : Int) = 0
          · refine gy_ifT (pc' := 67) rfl (by decide) (by decide) (by omega) hc18 ?_
            refine gz_s 1 (pc' := 68) (L' := [some (.ref x), some (.int (zi b))]) (S' := [.ref x]) rfl ?_
            refine gs_gtk rfl (by decide) rfl sh13.1 tx rfl rfl lp12k2 ?_
            by_cases hc19 : (tt : Int) ≤ 0
            · refine gy_ifT (pc' := 92) rfl (by decide) (by decide) (by omega) hc19 ?_
              refine gz_s 1 (pc' := 93) (L' := [some (.ref x), some (.int (zi b))]) (S' := [.ref x]) rfl ?_
              refine gs_gtk rfl (by decide) rfl sh13.1 tx rfl rfl lp12k2 ?_
              refine gy_ifT (pc' := 107) rfl (by decide) (by decide) ⟨by omega, by omega⟩ (by first | (simp [zc]; done) | (simp only [zc]; omega)) ?_
              have hK : ecK iv fr tt hg lw cf w0 w1 (b + 1).toNat = ((bv, (ecK iv fr tt hg lw cf w0 w1 (b).toNat).2.1).1, (bv, (ecK iv fr tt hg lw cf w0 w1 (b).toNat).2.1).2, (ecK iv fr tt hg lw cf w0 w1 (b).toNat).2.2) := by
                rw [hbn]
                exact ecK_s (bf := bv) ((ecI_n (by omega) (by intro w; rcases w with ⟨w1, w2, w3⟩; first | omega | exact absurd w3 (by assumption))).trans (by omega)) (ite2_2 (by omega) rfl) (ite3_3 (by omega) (by omega) rfl)
              have hK1 : (ecK iv fr tt hg lw cf w0 w1 (b + 1).toNat).1 = (bv, (ecK iv fr tt hg lw cf w0 w1 (b).toNat).2.1).1 := by rw [hK]
              have hrw20 : gRn 257 ty 97 ((ecK iv fr tt hg lw cf w0 w1 (b + 1).toNat).2.1) h13 := by rw [hK]; exact lp12k11
              have hrw21 : gRn 257 ty 80 ((ecK iv fr tt hg lw cf w0 w1 (b + 1).toNat).2.2) h13 := by rw [hK]; exact lp12k12
              have hK2 : ((bv, (ecK iv fr tt hg lw cf w0 w1 (b).toNat).2.1)).1 = bv := rfl
              refine gy_s 2 (pc' := 7) (L' := [some (.ref x), some (.int ((zi b) + zi 1))]) (S' := []) (L2 := [some (.ref x), some (.int (zi (b + 1)))]) (S2 := []) rfl (by simp only [zi_add, zi_sub, zi_mul, zi_neg, zi_and1, zi_and7, zi_and15, zi_and31, zi_and255]) (by simp only [zi_add, zi_sub, zi_mul, zi_neg, zi_and1, zi_and7, zi_and15, zi_and31, zi_and255]) ?_
              exact gz_wk (ihlp12 h13 (b + 1) bv (by omega) sh13 (by omega) (by omega) (by omega) (by omega) lp12k0 lp12k1 lp12k2 lp12k3 lp12k4 lp12k5 lp12k6 lp12k7 lp12k8 lp12k9 lp12k10 hrw20 hrw21) (gLw.s (gLw.s gLw.z))
            · refine gy_ifF rfl (by decide) (by decide) (by omega) hc19 ?_
              refine gz_s 1 (pc' := 75) (L' := [some (.ref x), some (.int (zi b))]) (S' := [.ref x]) rfl ?_
              refine gs_gtk rfl (by decide) rfl sh13.1 tx rfl rfl lp12k3 ?_
              by_cases hc22 : (hg : Int) ≤ 0
              · refine gy_ifT (pc' := 92) rfl (by decide) (by decide) (by omega) hc22 ?_
                refine gz_s 1 (pc' := 93) (L' := [some (.ref x), some (.int (zi b))]) (S' := [.ref x]) rfl ?_
                refine gs_gtk rfl (by decide) rfl sh13.1 tx rfl rfl lp12k2 ?_
                refine gy_ifF rfl (by decide) (by decide) ⟨by omega, by omega⟩ (by first | (simp [zc]; done) | (simp only [zc]; omega)) ?_
                have hwb23 : ewB (ecK iv fr tt hg lw cf w0 w1 (b).toNat).2.2 50000 := (ewB.of hywb1 (ecK_cnt (n := 257) (by omega) (by omega) (b).toNat).2 (by omega))
                refine gy_s 4 (pc' := 104) (L' := [some (.ref x), some (.int (zi b))]) (S' := [.int ((zi b) * (zi 64)), .ref x]) (L2 := [some (.ref x), some (.int (zi b))]) (S2 := [.int (zi (b * 64)), .ref x]) rfl (by simp only [zi_add, zi_sub, zi_mul, zi_neg, zi_and1, zi_and7, zi_and15, zi_and31, zi_and255]) (by simp only [zi_add, zi_sub, zi_mul, zi_neg, zi_and1, zi_and7, zi_and15, zi_and31, zi_and255]) ?_
                refine gz_call rfl (by decide) rfl (by decide) (by decide) (gcal_of rfl rfl rfl (Nat.le_of_ble_eq_true rfl) (gJ.recv (G := gGG) sh13.1 tx rfl rfl)) (cn_putOthers _ sh13.1 x tx (b * 64) ⟨by omega, by omega⟩ cg lp12k0 ⟨by omega, by omega⟩ fr lp12k1 ⟨by omega, by omega⟩ tt lp12k2 ⟨by omega, by omega⟩ lw lp12k4 ⟨by omega, by omega⟩ bs lp12k5 ⟨by omega, by omega⟩ ((ecK iv fr tt hg lw cf w0 w1 (b).toNat).2.2) cf (by omega) (by omega) (by omega) uq lp12k12 hwb23 lp12k8) (fun q24 _ wq24 => ?_)
                obtain ⟨pq24, oq24, hq24⟩ := q24
                obtain ⟨xq24, gq24, yq24_0⟩ := wq24
                refine ⟨_, gq24, ?_⟩
                show gz gPP gGG gcn _ _ 107 [some (.ref x), some (.int (zi b))] [] hq24 _
                have sq24 : gSs rT 1027 ty [71012, 71013, 71014, 80999, 97999] h hq24 := gSs.tr sh13 xq24 (by decide)
                have s25 := (xq24.2.2.2.2.2 x 11 (by rw [tx]; decide)).trans lp12k0
                have s26 := (xq24.2.2.2.2.2 x 7 (by rw [tx]; decide)).trans lp12k1
                have s27 := (xq24.2.2.2.2.2 x 8 (by rw [tx]; decide)).trans lp12k2
                have s28 := (xq24.2.2.2.2.2 x 9 (by rw [tx]; decide)).trans lp12k3
                have s29 := (xq24.2.2.2.2.2 x 10 (by rw [tx]; decide)).trans lp12k4
                have s30 := (xq24.2.2.2.2.2 x 5 (by rw [tx]; decide)).trans lp12k5
                have s31 := (xq24.2.2.2.2.2 x 6 (by rw [tx]; decide)).trans lp12k6
                have s32 := (xq24.2.2.2.2.2 x 12 (by rw [tx]; decide)).trans lp12k7
                have pr33 := gRn.fr xq24.2 (by decide) lp12k8
                have pr34 := gRn.fr xq24.2 (by decide) lp12k11
                have hK : ecK iv fr tt hg lw cf w0 w1 (b + 1).toNat = ((bv, (ecK iv fr tt hg lw cf w0 w1 (b).toNat).2.1).1, (bv, (ecK iv fr tt hg lw cf w0 w1 (b).toNat).2.1).2, eeOt ecS ecP lw cf ((b * 64) + (if 1 ≤ fr then fr else 1)).toNat (tt - (if 1 ≤ fr then fr else 1) + 1).toNat ((ecK iv fr tt hg lw cf w0 w1 (b).toNat).2.2)) := by
                  rw [hbn]
                  exact ecK_s (bf := bv) ((ecI_n (by omega) (by intro w; rcases w with ⟨w1, w2, w3⟩; first | omega | exact absurd w3 (by assumption))).trans (by omega)) (ite2_2 (by omega) rfl) (ite3_2 (by omega) (by omega) (by rw [hi2]))
                have hK1 : (ecK iv fr tt hg lw cf w0 w1 (b + 1).toNat).1 = (bv, (ecK iv fr tt hg lw cf w0 w1 (b).toNat).2.1).1 := by rw [hK]
                have hrw35 : gRn 257 ty 97 ((ecK iv fr tt hg lw cf w0 w1 (b + 1).toNat).2.1) hq24 := by rw [hK]; exact pr34
                have hrw36 : gRn 257 ty 80 ((ecK iv fr tt hg lw cf w0 w1 (b + 1).toNat).2.2) hq24 := by rw [hK]; exact yq24_0
                have hK2 : ((bv, (ecK iv fr tt hg lw cf w0 w1 (b).toNat).2.1)).1 = bv := rfl
                refine gy_s 2 (pc' := 7) (L' := [some (.ref x), some (.int ((zi b) + zi 1))]) (S' := []) (L2 := [some (.ref x), some (.int (zi (b + 1)))]) (S2 := []) rfl (by simp only [zi_add, zi_sub, zi_mul, zi_neg, zi_and1, zi_and7, zi_and15, zi_and31, zi_and255]) (by simp only [zi_add, zi_sub, zi_mul, zi_neg, zi_and1, zi_and7, zi_and15, zi_and31, zi_and255]) ?_
                exact gz_wk (ihlp12 hq24 (b + 1) bv (by omega) sq24 (by omega) (by omega) (by omega) (by omega) s25 s26 s27 s28 s29 s30 s31 s32 pr33 lp12k9 lp12k10 hrw35 hrw36) (gLw.s (gLw.s gLw.z))
              · refine gy_ifF rfl (by decide) (by decide) (by omega) hc22 ?_
                have hwb37 : ewB (ecK iv fr tt hg lw cf w0 w1 (b).toNat).2.2 50000 := (ewB.of hywb1 (ecK_cnt (n := 257) (by omega) (by omega) (b).toNat).2 (by omega))
                refine gy_s 4 (pc' := 86) (L' := [some (.ref x), some (.int (zi b))]) (S' := [.int ((zi b) * (zi 64)), .ref x]) (L2 := [some (.ref x), some (.int (zi b))]) (S2 := [.int (zi (b * 64)), .ref x]) rfl (by simp only [zi_add, zi_sub, zi_mul, zi_neg, zi_and1, zi_and7, zi_and15, zi_and31, zi_and255]) (by simp only [zi_add, zi_sub, zi_mul, zi_neg, zi_and1, zi_and7, zi_and15, zi_and31, zi_and255]) ?_
                refine gz_call rfl (by decide) rfl (by decide) (by decide) (gcal_of rfl rfl rfl (Nat.le_of_ble_eq_true rfl) (gJ.recv (G := gGG) sh13.1 tx rfl rfl)) (cn_refineOthers _ sh13.1 x tx (b * 64) ⟨by omega, by omega⟩ cg lp12k0 ⟨by omega, by omega⟩ fr lp12k1 ⟨by omega, by omega⟩ tt lp12k2 ⟨by omega, by omega⟩ lw lp12k4 ⟨by omega, by omega⟩ bs lp12k5 ⟨by omega, by omega⟩ ((ecK iv fr tt hg lw cf w0 w1 (b).toNat).2.2) cf (by omega) (by omega) uq lp12k12 hwb37 lp12k8) (fun q38 _ wq38 => ?_)
                obtain ⟨pq38, oq38, hq38⟩ := q38
                obtain ⟨xq38, gq38, yq38_0⟩ := wq38
                refine ⟨_, gq38, ?_⟩
                show gz gPP gGG gcn _ _ 89 [some (.ref x), some (.int (zi b))] [] hq38 _
                have sq38 : gSs rT 1027 ty [71012, 71013, 71014, 80999, 97999] h hq38 := gSs.tr sh13 xq38 (by decide)
                have s39 := (xq38.2.2.2.2.2 x 11 (by rw [tx]; decide)).trans lp12k0
                have s40 := (xq38.2.2.2.2.2 x 7 (by rw [tx]; decide)).trans lp12k1
                have s41 := (xq38.2.2.2.2.2 x 8 (by rw [tx]; decide)).trans lp12k2
                have s42 := (xq38.2.2.2.2.2 x 9 (by rw [tx]; decide)).trans lp12k3
                have s43 := (xq38.2.2.2.2.2 x 10 (by rw [tx]; decide)).trans lp12k4
                have s44 := (xq38.2.2.2.2.2 x 5 (by rw [tx]; decide)).trans lp12k5
                have s45 := (xq38.2.2.2.2.2 x 6 (by rw [tx]; decide)).trans lp12k6
                have s46 := (xq38.2.2.2.2.2 x 12 (by rw [tx]; decide)).trans lp12k7
                have pr47 := gRn.fr xq38.2 (by decide) lp12k8
                have pr48 := gRn.fr xq38.2 (by decide) lp12k11
                refine gz_s 1 (pc' := 107) (L' := [some (.ref x), some (.int (zi b))]) (S' := []) rfl ?_
                have hK : ecK iv fr tt hg lw cf w0 w1 (b + 1).toNat = ((bv, (ecK iv fr tt hg lw cf w0 w1 (b).toNat).2.1).1, (bv, (ecK iv fr tt hg lw cf w0 w1 (b).toNat).2.1).2, eeRz ecS ecP lw cf (b * 64) fr tt ((ecK iv fr tt hg lw cf w0 w1 (b).toNat).2.2)) := by
                  rw [hbn]
                  exact ecK_s (bf := bv) ((ecI_n (by omega) (by intro w; rcases w with ⟨w1, w2, w3⟩; first | omega | exact absurd w3 (by assumption))).trans (by omega)) (ite2_2 (by omega) rfl) (ite3_1 ⟨by omega, by omega⟩ (by unfold eeRz; rw [hi1]))
                have hK1 : (ecK iv fr tt hg lw cf w0 w1 (b + 1).toNat).1 = (bv, (ecK iv fr tt hg lw cf w0 w1 (b).toNat).2.1).1 := by rw [hK]
                have hrw49 : gRn 257 ty 97 ((ecK iv fr tt hg lw cf w0 w1 (b + 1).toNat).2.1) hq38 := by rw [hK]; exact pr48
                have hrw50 : gRn 257 ty 80 ((ecK iv fr tt hg lw cf w0 w1 (b + 1).toNat).2.2) hq38 := by rw [hK]; exact yq38_0
                have hK2 : ((bv, (ecK iv fr tt hg lw cf w0 w1 (b).toNat).2.1)).1 = bv := rfl
                refine gy_s 2 (pc' := 7) (L' := [some (.ref x), some (.int ((zi b) + zi 1))]) (S' := []) (L2 := [some (.ref x), some (.int (zi (b + 1)))]) (S2 := []) rfl (by simp only [zi_add, zi_sub, zi_mul, zi_neg, zi_and1, zi_and7, zi_and15, zi_and31, zi_and255]) (by simp only [zi_add, zi_sub, zi_mul, zi_neg, zi_and1, zi_and7, zi_and15, zi_and31, zi_and255]) ?_
                exact gz_wk (ihlp12 hq38 (b + 1) bv (by omega) sq38 (by omega) (by omega) (by omega) (by omega) s39 s40 s41 s42 s43 s44 s45 s46 pr47 lp12k9 lp12k10 hrw49 hrw50) (gLw.s (gLw.s gLw.z))
          · refine gy_ifF rfl (by decide) (by decide) (by omega) hc18 ?_
            have hwb51 : ewB ((ecK iv fr tt hg lw cf w0 w1 (b).toNat).2.1) 90000 := (ewB.of hywb0 (ecK_cnt (n := 257) (by omega) (by omega) (b).toNat).1 (by omega))
            refine gy_s 4 (pc' := 64) (L' := [some (.ref x), some (.int (zi b))]) (S' := [.int ((zi b) * (zi 64)), .ref x]) (L2 := [some (.ref x), some (.int (zi b))]) (S2 := [.int (zi (b * 64)), .ref x]) rfl (by simp only [zi_add, zi_sub, zi_mul, zi_neg, zi_and1, zi_and7, zi_and15, zi_and31, zi_and255]) (by simp only [zi_add, zi_sub, zi_mul, zi_neg, zi_and1, zi_and7, zi_and15, zi_and31, zi_and255]) ?_
            refine gz_call rfl (by decide) rfl (by decide) (by decide) (gcal_of rfl rfl rfl (Nat.le_of_ble_eq_true rfl) (gJ.recv (G := gGG) sh13.1 tx rfl rfl)) (cn_putFirst _ sh13.1 x tx (b * 64) ⟨by omega, by omega⟩ cg lp12k0 ⟨by omega, by omega⟩ lw lp12k4 ⟨by omega, by omega⟩ hg lp12k3 ⟨by omega, by omega⟩ bs lp12k5 ⟨by omega, by omega⟩ bv lp12k7 ⟨by omega, by omega⟩ ((ecK iv fr tt hg lw cf w0 w1 (b).toNat).2.1) cf (by omega) uq lp12k11 hwb51 lp12k8) (fun q52 _ wq52 => ?_)
            obtain ⟨pq52, oq52, hq52⟩ := q52
            obtain ⟨xq52, fq52_0, gq52, efq52_0, afq52_0, bfq52_0, uq52_0, yq52_0⟩ := wq52
            refine ⟨_, gq52, ?_⟩
            show gz gPP gGG gcn _ _ 67 [some (.ref x), some (.int (zi b))] [] hq52 _
            have sq52 : gSs rT 1027 ty [71012, 71013, 71014, 80999, 97999] h hq52 := gSs.tr sh13 xq52 (by decide)
            have s53 := (xq52.2.2.2.2.2 x 11 (by rw [tx]; decide)).trans lp12k0
            have s54 := (xq52.2.2.2.2.2 x 7 (by rw [tx]; decide)).trans lp12k1
            have s55 := (xq52.2.2.2.2.2 x 8 (by rw [tx]; decide)).trans lp12k2
            have s56 := (xq52.2.2.2.2.2 x 9 (by rw [tx]; decide)).trans lp12k3
            have s57 := (xq52.2.2.2.2.2 x 10 (by rw [tx]; decide)).trans lp12k4
            have s58 := (xq52.2.2.2.2.2 x 5 (by rw [tx]; decide)).trans lp12k5
            have s59 := (xq52.2.2.2.2.2 x 6 (by rw [tx]; decide)).trans lp12k6
            have pr60 := gRn.fr xq52.2 (by decide) lp12k8
            have pr61 := gRn.fr xq52.2 (by decide) lp12k12
            refine gz_s 1 (pc' := 68) (L' := [some (.ref x), some (.int (zi b))]) (S' := [.ref x]) rfl ?_
            refine gs_gtk rfl (by decide) rfl sq52.1 tx rfl rfl s55 ?_
            by_cases hc62 : (tt : Int) ≤ 0
            · refine gy_ifT (pc' := 92) rfl (by decide) (by decide) (by omega) hc62 ?_
              refine gz_s 1 (pc' := 93) (L' := [some (.ref x), some (.int (zi b))]) (S' := [.ref x]) rfl ?_
              refine gs_gtk rfl (by decide) rfl sq52.1 tx rfl rfl s55 ?_
              refine gy_ifT (pc' := 107) rfl (by decide) (by decide) ⟨by omega, by omega⟩ (by first | (simp [zc]; done) | (simp only [zc]; omega)) ?_
              have hK : ecK iv fr tt hg lw cf w0 w1 (b + 1).toNat = ((eeFi ecS ecP lw hg (cf ((b * 64)).toNat) bv ((ecK iv fr tt hg lw cf w0 w1 (b).toNat).2.1)).1, (eeFi ecS ecP lw hg (cf ((b * 64)).toNat) bv ((ecK iv fr tt hg lw cf w0 w1 (b).toNat).2.1)).2, (ecK iv fr tt hg lw cf w0 w1 (b).toNat).2.2) := by
                rw [hbn]
                exact ecK_s (bf := bv) ((ecI_n (by omega) (by intro w; rcases w with ⟨w1, w2, w3⟩; first | omega | exact absurd w3 (by assumption))).trans (by omega)) (ite2_1 (by omega) (by rw [hi0])) (ite3_3 (by omega) (by omega) rfl)
              have hK1 : (ecK iv fr tt hg lw cf w0 w1 (b + 1).toNat).1 = (eeFi ecS ecP lw hg (cf ((b * 64)).toNat) bv ((ecK iv fr tt hg lw cf w0 w1 (b).toNat).2.1)).1 := by rw [hK]
              have hrw63 : gRn 257 ty 97 ((ecK iv fr tt hg lw cf w0 w1 (b + 1).toNat).2.1) hq52 := by rw [hK]; exact yq52_0
              have hrw64 : gRn 257 ty 80 ((ecK iv fr tt hg lw cf w0 w1 (b + 1).toNat).2.2) hq52 := by rw [hK]; exact pr61
              refine gy_s 2 (pc' := 7) (L' := [some (.ref x), some (.int ((zi b) + zi 1))]) (S' := []) (L2 := [some (.ref x), some (.int (zi (b + 1)))]) (S2 := []) rfl (by simp only [zi_add, zi_sub, zi_mul, zi_neg, zi_and1, zi_and7, zi_and15, zi_and31, zi_and255]) (by simp only [zi_add, zi_sub, zi_mul, zi_neg, zi_and1, zi_and7, zi_and15, zi_and31, zi_and255]) ?_
              exact gz_wk (ihlp12 hq52 (b + 1) fq52_0 (by omega) sq52 (by omega) (by omega) (by omega) (by omega) s53 s54 s55 s56 s57 s58 s59 efq52_0 pr60 lp12k9 lp12k10 hrw63 hrw64) (gLw.s (gLw.s gLw.z))
            · refine gy_ifF rfl (by decide) (by decide) (by omega) hc62 ?_
              refine gz_s 1 (pc' := 75) (L' := [some (.ref x), some (.int (zi b))]) (S' := [.ref x]) rfl ?_
              refine gs_gtk rfl (by decide) rfl sq52.1 tx rfl rfl s56 ?_
              by_cases hc65 : (hg : Int) ≤ 0
              · refine gy_ifT (pc' := 92) rfl (by decide) (by decide) (by omega) hc65 ?_
                refine gz_s 1 (pc' := 93) (L' := [some (.ref x), some (.int (zi b))]) (S' := [.ref x]) rfl ?_
                refine gs_gtk rfl (by decide) rfl sq52.1 tx rfl rfl s55 ?_
                refine gy_ifF rfl (by decide) (by decide) ⟨by omega, by omega⟩ (by first | (simp [zc]; done) | (simp only [zc]; omega)) ?_
                have hwb66 : ewB (ecK iv fr tt hg lw cf w0 w1 (b).toNat).2.2 50000 := (ewB.of hywb1 (ecK_cnt (n := 257) (by omega) (by omega) (b).toNat).2 (by omega))
                refine gy_s 4 (pc' := 104) (L' := [some (.ref x), some (.int (zi b))]) (S' := [.int ((zi b) * (zi 64)), .ref x]) (L2 := [some (.ref x), some (.int (zi b))]) (S2 := [.int (zi (b * 64)), .ref x]) rfl (by simp only [zi_add, zi_sub, zi_mul, zi_neg, zi_and1, zi_and7, zi_and15, zi_and31, zi_and255]) (by simp only [zi_add, zi_sub, zi_mul, zi_neg, zi_and1, zi_and7, zi_and15, zi_and31, zi_and255]) ?_
                refine gz_call rfl (by decide) rfl (by decide) (by decide) (gcal_of rfl rfl rfl (Nat.le_of_ble_eq_true rfl) (gJ.recv (G := gGG) sq52.1 tx rfl rfl)) (cn_putOthers _ sq52.1 x tx (b * 64) ⟨by omega, by omega⟩ cg s53 ⟨by omega, by omega⟩ fr s54 ⟨by omega, by omega⟩ tt s55 ⟨by omega, by omega⟩ lw s57 ⟨by omega, by omega⟩ bs s58 ⟨by omega, by omega⟩ ((ecK iv fr tt hg lw cf w0 w1 (b).toNat).2.2) cf (by omega) (by omega) (by omega) uq pr61 hwb66 pr60) (fun q67 _ wq67 => ?_)
                obtain ⟨pq67, oq67, hq67⟩ := q67
                obtain ⟨xq67, gq67, yq67_0⟩ := wq67
                refine ⟨_, gq67, ?_⟩
                show gz gPP gGG gcn _ _ 107 [some (.ref x), some (.int (zi b))] [] hq67 _
                have sq67 : gSs rT 1027 ty [71012, 71013, 71014, 80999, 97999] h hq67 := gSs.tr sq52 xq67 (by decide)
                have s68 := (xq67.2.2.2.2.2 x 11 (by rw [tx]; decide)).trans s53
                have s69 := (xq67.2.2.2.2.2 x 7 (by rw [tx]; decide)).trans s54
                have s70 := (xq67.2.2.2.2.2 x 8 (by rw [tx]; decide)).trans s55
                have s71 := (xq67.2.2.2.2.2 x 9 (by rw [tx]; decide)).trans s56
                have s72 := (xq67.2.2.2.2.2 x 10 (by rw [tx]; decide)).trans s57
                have s73 := (xq67.2.2.2.2.2 x 5 (by rw [tx]; decide)).trans s58
                have s74 := (xq67.2.2.2.2.2 x 6 (by rw [tx]; decide)).trans s59
                have s75 := (xq67.2.2.2.2.2 x 12 (by rw [tx]; decide)).trans efq52_0
                have pr76 := gRn.fr xq67.2 (by decide) pr60
                have pr77 := gRn.fr xq67.2 (by decide) yq52_0
                have hK : ecK iv fr tt hg lw cf w0 w1 (b + 1).toNat = ((eeFi ecS ecP lw hg (cf ((b * 64)).toNat) bv ((ecK iv fr tt hg lw cf w0 w1 (b).toNat).2.1)).1, (eeFi ecS ecP lw hg (cf ((b * 64)).toNat) bv ((ecK iv fr tt hg lw cf w0 w1 (b).toNat).2.1)).2, eeOt ecS ecP lw cf ((b * 64) + (if 1 ≤ fr then fr else 1)).toNat (tt - (if 1 ≤ fr then fr else 1) + 1).toNat ((ecK iv fr tt hg lw cf w0 w1 (b).toNat).2.2)) := by
                  rw [hbn]
                  exact ecK_s (bf := bv) ((ecI_n (by omega) (by intro w; rcases w with ⟨w1, w2, w3⟩; first | omega | exact absurd w3 (by assumption))).trans (by omega)) (ite2_1 (by omega) (by rw [hi0])) (ite3_2 (by omega) (by omega) (by rw [hi2]))
                have hK1 : (ecK iv fr tt hg lw cf w0 w1 (b + 1).toNat).1 = (eeFi ecS ecP lw hg (cf ((b * 64)).toNat) bv ((ecK iv fr tt hg lw cf w0 w1 (b).toNat).2.1)).1 := by rw [hK]
                have hrw78 : gRn 257 ty 97 ((ecK iv fr tt hg lw cf w0 w1 (b + 1).toNat).2.1) hq67 := by rw [hK]; exact pr77
                have hrw79 : gRn 257 ty 80 ((ecK iv fr tt hg lw cf w0 w1 (b + 1).toNat).2.2) hq67 := by rw [hK]; exact yq67_0
                refine gy_s 2 (pc' := 7) (L' := [some (.ref x), some (.int ((zi b) + zi 1))]) (S' := []) (L2 := [some (.ref x), some (.int (zi (b + 1)))]) (S2 := []) rfl (by simp only [zi_add, zi_sub, zi_mul, zi_neg, zi_and1, zi_and7, zi_and15, zi_and31, zi_and255]) (by simp only [zi_add, zi_sub, zi_mul, zi_neg, zi_and1, zi_and7, zi_and15, zi_and31, zi_and255]) ?_
                exact gz_wk (ihlp12 hq67 (b + 1) fq52_0 (by omega) sq67 (by omega) (by omega) (by omega) (by omega) s68 s69 s70 s71 s72 s73 s74 s75 pr76 lp12k9 lp12k10 hrw78 hrw79) (gLw.s (gLw.s gLw.z))
              · refine gy_ifF rfl (by decide) (by decide) (by omega) hc65 ?_
                have hwb80 : ewB (ecK iv fr tt hg lw cf w0 w1 (b).toNat).2.2 50000 := (ewB.of hywb1 (ecK_cnt (n := 257) (by omega) (by omega) (b).toNat).2 (by omega))
                refine gy_s 4 (pc' := 86) (L' := [some (.ref x), some (.int (zi b))]) (S' := [.int ((zi b) * (zi 64)), .ref x]) (L2 := [some (.ref x), some (.int (zi b))]) (S2 := [.int (zi (b * 64)), .ref x]) rfl (by simp only [zi_add, zi_sub, zi_mul, zi_neg, zi_and1, zi_and7, zi_and15, zi_and31, zi_and255]) (by simp only [zi_add, zi_sub, zi_mul, zi_neg, zi_and1, zi_and7, zi_and15, zi_and31, zi_and255]) ?_
                refine gz_call rfl (by decide) rfl (by decide) (by decide) (gcal_of rfl rfl rfl (Nat.le_of_ble_eq_true rfl) (gJ.recv (G := gGG) sq52.1 tx rfl rfl)) (cn_refineOthers _ sq52.1 x tx (b * 64) ⟨by omega, by omega⟩ cg s53 ⟨by omega, by omega⟩ fr s54 ⟨by omega, by omega⟩ tt s55 ⟨by omega, by omega⟩ lw s57 ⟨by omega, by omega⟩ bs s58 ⟨by omega, by omega⟩ ((ecK iv fr tt hg lw cf w0 w1 (b).toNat).2.2) cf (by omega) (by omega) uq pr61 hwb80 pr60) (fun q81 _ wq81 => ?_)
                obtain ⟨pq81, oq81, hq81⟩ := q81
                obtain ⟨xq81, gq81, yq81_0⟩ := wq81
                refine ⟨_, gq81, ?_⟩
                show gz gPP gGG gcn _ _ 89 [some (.ref x), some (.int (zi b))] [] hq81 _
                have sq81 : gSs rT 1027 ty [71012, 71013, 71014, 80999, 97999] h hq81 := gSs.tr sq52 xq81 (by decide)
                have s82 := (xq81.2.2.2.2.2 x 11 (by rw [tx]; decide)).trans s53
                have s83 := (xq81.2.2.2.2.2 x 7 (by rw [tx]; decide)).trans s54
                have s84 := (xq81.2.2.2.2.2 x 8 (by rw [tx]; decide)).trans s55
                have s85 := (xq81.2.2.2.2.2 x 9 (by rw [tx]; decide)).trans s56
                have s86 := (xq81.2.2.2.2.2 x 10 (by rw [tx]; decide)).trans s57
                have s87 := (xq81.2.2.2.2.2 x 5 (by rw [tx]; decide)).trans s58
                have s88 := (xq81.2.2.2.2.2 x 6 (by rw [tx]; decide)).trans s59
                have s89 := (xq81.2.2.2.2.2 x 12 (by rw [tx]; decide)).trans efq52_0
                have pr90 := gRn.fr xq81.2 (by decide) pr60
                have pr91 := gRn.fr xq81.2 (by decide) yq52_0
                refine gz_s 1 (pc' := 107) (L' := [some (.ref x), some (.int (zi b))]) (S' := []) rfl ?_
                have hK : ecK iv fr tt hg lw cf w0 w1 (b + 1).toNat = ((eeFi ecS ecP lw hg (cf ((b * 64)).toNat) bv ((ecK iv fr tt hg lw cf w0 w1 (b).toNat).2.1)).1, (eeFi ecS ecP lw hg (cf ((b * 64)).toNat) bv ((ecK iv fr tt hg lw cf w0 w1 (b).toNat).2.1)).2, eeRz ecS ecP lw cf (b * 64) fr tt ((ecK iv fr tt hg lw cf w0 w1 (b).toNat).2.2)) := by
                  rw [hbn]
                  exact ecK_s (bf := bv) ((ecI_n (by omega) (by intro w; rcases w with ⟨w1, w2, w3⟩; first | omega | exact absurd w3 (by assumption))).trans (by omega)) (ite2_1 (by omega) (by rw [hi0])) (ite3_1 ⟨by omega, by omega⟩ (by unfold eeRz; rw [hi1]))
                have hK1 : (ecK iv fr tt hg lw cf w0 w1 (b + 1).toNat).1 = (eeFi ecS ecP lw hg (cf ((b * 64)).toNat) bv ((ecK iv fr tt hg lw cf w0 w1 (b).toNat).2.1)).1 := by rw [hK]
                have hrw92 : gRn 257 ty 97 ((ecK iv fr tt hg lw cf w0 w1 (b + 1).toNat).2.1) hq81 := by rw [hK]; exact pr91
                have hrw93 : gRn 257 ty 80 ((ecK iv fr tt hg lw cf w0 w1 (b + 1).toNat).2.2) hq81 := by rw [hK]; exact yq81_0
                refine gy_s 2 (pc' := 7) (L' := [some (.ref x), some (.int ((zi b) + zi 1))]) (S' := []) (L2 := [some (.ref x), some (.int (zi (b + 1)))]) (S2 := []) rfl (by simp only [zi_add, zi_sub, zi_mul, zi_neg, zi_and1, zi_and7, zi_and15, zi_and31, zi_and255]) (by simp only [zi_add, zi_sub, zi_mul, zi_neg, zi_and1, zi_and7, zi_and15, zi_and31, zi_and255]) ?_
                exact gz_wk (ihlp12 hq81 (b + 1) fq52_0 (by omega) sq81 (by omega) (by omega) (by omega) (by omega) s82 s83 s84 s85 s86 s87 s88 s89 pr90 lp12k9 lp12k10 hrw92 hrw93) (gLw.s (gLw.s gLw.z))
        · refine gy_ifF rfl (by decide) (by decide) (by omega) hc17 ?_
          refine gz_s 1 (pc' := 23) (L' := [some (.ref x), some (.int (zi b))]) (S' := [.int (zi b)]) rfl ?_
          by_cases hc94 : (b : Int) ≤ 0
          · refine gy_ifT (pc' := 52) rfl (by decide) (by decide) (by omega) hc94 ?_
            refine gz_s 1 (pc' := 53) (L' := [some (.ref x), some (.int (zi b))]) (S' := [.ref x]) rfl ?_
            refine gs_gtk rfl (by decide) rfl sh13.1 tx rfl rfl lp12k1 ?_
            by_cases hc95 : ¬ (fr : Int) = 0
            · refine gy_ifT (pc' := 67) rfl (by decide) (by decide) (by omega) hc95 ?_
              refine gz_s 1 (pc' := 68) (L' := [some (.ref x), some (.int (zi b))]) (S' := [.ref x]) rfl ?_
              refine gs_gtk rfl (by decide) rfl sh13.1 tx rfl rfl lp12k2 ?_
              by_cases hc96 : (tt : Int) ≤ 0
              · refine gy_ifT (pc' := 92) rfl (by decide) (by decide) (by omega) hc96 ?_
                refine gz_s 1 (pc' := 93) (L' := [some (.ref x), some (.int (zi b))]) (S' := [.ref x]) rfl ?_
                refine gs_gtk rfl (by decide) rfl sh13.1 tx rfl rfl lp12k2 ?_
                refine gy_ifT (pc' := 107) rfl (by decide) (by decide) ⟨by omega, by omega⟩ (by first | (simp [zc]; done) | (simp only [zc]; omega)) ?_
                have hK : ecK iv fr tt hg lw cf w0 w1 (b + 1).toNat = ((bv, (ecK iv fr tt hg lw cf w0 w1 (b).toNat).2.1).1, (bv, (ecK iv fr tt hg lw cf w0 w1 (b).toNat).2.1).2, (ecK iv fr tt hg lw cf w0 w1 (b).toNat).2.2) := by
                  rw [hbn]
                  exact ecK_s (bf := bv) ((ecI_n (by omega) (by intro w; rcases w with ⟨w1, w2, w3⟩; first | omega | exact absurd w3 (by assumption))).trans (by omega)) (ite2_2 (by omega) rfl) (ite3_3 (by omega) (by omega) rfl)
                have hK1 : (ecK iv fr tt hg lw cf w0 w1 (b + 1).toNat).1 = (bv, (ecK iv fr tt hg lw cf w0 w1 (b).toNat).2.1).1 := by rw [hK]
                have hrw97 : gRn 257 ty 97 ((ecK iv fr tt hg lw cf w0 w1 (b + 1).toNat).2.1) h13 := by rw [hK]; exact lp12k11
                have hrw98 : gRn 257 ty 80 ((ecK iv fr tt hg lw cf w0 w1 (b + 1).toNat).2.2) h13 := by rw [hK]; exact lp12k12
                have hK2 : ((bv, (ecK iv fr tt hg lw cf w0 w1 (b).toNat).2.1)).1 = bv := rfl
                refine gy_s 2 (pc' := 7) (L' := [some (.ref x), some (.int ((zi b) + zi 1))]) (S' := []) (L2 := [some (.ref x), some (.int (zi (b + 1)))]) (S2 := []) rfl (by simp only [zi_add, zi_sub, zi_mul, zi_neg, zi_and1, zi_and7, zi_and15, zi_and31, zi_and255]) (by simp only [zi_add, zi_sub, zi_mul, zi_neg, zi_and1, zi_and7, zi_and15, zi_and31, zi_and255]) ?_
                exact gz_wk (ihlp12 h13 (b + 1) bv (by omega) sh13 (by omega) (by omega) (by omega) (by omega) lp12k0 lp12k1 lp12k2 lp12k3 lp12k4 lp12k5 lp12k6 lp12k7 lp12k8 lp12k9 lp12k10 hrw97 hrw98) (gLw.s (gLw.s gLw.z))
              · refine gy_ifF rfl (by decide) (by decide) (by omega) hc96 ?_
                refine gz_s 1 (pc' := 75) (L' := [some (.ref x), some (.int (zi b))]) (S' := [.ref x]) rfl ?_
                refine gs_gtk rfl (by decide) rfl sh13.1 tx rfl rfl lp12k3 ?_
                by_cases hc99 : (hg : Int) ≤ 0
                · refine gy_ifT (pc' := 92) rfl (by decide) (by decide) (by omega) hc99 ?_
                  refine gz_s 1 (pc' := 93) (L' := [some (.ref x), some (.int (zi b))]) (S' := [.ref x]) rfl ?_
                  refine gs_gtk rfl (by decide) rfl sh13.1 tx rfl rfl lp12k2 ?_
                  refine gy_ifF rfl (by decide) (by decide) ⟨by omega, by omega⟩ (by first | (simp [zc]; done) | (simp only [zc]; omega)) ?_
                  have hwb100 : ewB (ecK iv fr tt hg lw cf w0 w1 (b).toNat).2.2 50000 := (ewB.of hywb1 (ecK_cnt (n := 257) (by omega) (by omega) (b).toNat).2 (by omega))
                  refine gy_s 4 (pc' := 104) (L' := [some (.ref x), some (.int (zi b))]) (S' := [.int ((zi b) * (zi 64)), .ref x]) (L2 := [some (.ref x), some (.int (zi b))]) (S2 := [.int (zi (b * 64)), .ref x]) rfl (by simp only [zi_add, zi_sub, zi_mul, zi_neg, zi_and1, zi_and7, zi_and15, zi_and31, zi_and255]) (by simp only [zi_add, zi_sub, zi_mul, zi_neg, zi_and1, zi_and7, zi_and15, zi_and31, zi_and255]) ?_
                  refine gz_call rfl (by decide) rfl (by decide) (by decide) (gcal_of rfl rfl rfl (Nat.le_of_ble_eq_true rfl) (gJ.recv (G := gGG) sh13.1 tx rfl rfl)) (cn_putOthers _ sh13.1 x tx (b * 64) ⟨by omega, by omega⟩ cg lp12k0 ⟨by omega, by omega⟩ fr lp12k1 ⟨by omega, by omega⟩ tt lp12k2 ⟨by omega, by omega⟩ lw lp12k4 ⟨by omega, by omega⟩ bs lp12k5 ⟨by omega, by omega⟩ ((ecK iv fr tt hg lw cf w0 w1 (b).toNat).2.2) cf (by omega) (by omega) (by omega) uq lp12k12 hwb100 lp12k8) (fun q101 _ wq101 => ?_)
                  obtain ⟨pq101, oq101, hq101⟩ := q101
                  obtain ⟨xq101, gq101, yq101_0⟩ := wq101
                  refine ⟨_, gq101, ?_⟩
                  show gz gPP gGG gcn _ _ 107 [some (.ref x), some (.int (zi b))] [] hq101 _
                  have sq101 : gSs rT 1027 ty [71012, 71013, 71014, 80999, 97999] h hq101 := gSs.tr sh13 xq101 (by decide)
                  have s102 := (xq101.2.2.2.2.2 x 11 (by rw [tx]; decide)).trans lp12k0
                  have s103 := (xq101.2.2.2.2.2 x 7 (by rw [tx]; decide)).trans lp12k1
                  have s104 := (xq101.2.2.2.2.2 x 8 (by rw [tx]; decide)).trans lp12k2
                  have s105 := (xq101.2.2.2.2.2 x 9 (by rw [tx]; decide)).trans lp12k3
                  have s106 := (xq101.2.2.2.2.2 x 10 (by rw [tx]; decide)).trans lp12k4
                  have s107 := (xq101.2.2.2.2.2 x 5 (by rw [tx]; decide)).trans lp12k5
                  have s108 := (xq101.2.2.2.2.2 x 6 (by rw [tx]; decide)).trans lp12k6
                  have s109 := (xq101.2.2.2.2.2 x 12 (by rw [tx]; decide)).trans lp12k7
                  have pr110 := gRn.fr xq101.2 (by decide) lp12k8
                  have pr111 := gRn.fr xq101.2 (by decide) lp12k11
                  have hK : ecK iv fr tt hg lw cf w0 w1 (b + 1).toNat = ((bv, (ecK iv fr tt hg lw cf w0 w1 (b).toNat).2.1).1, (bv, (ecK iv fr tt hg lw cf w0 w1 (b).toNat).2.1).2, eeOt ecS ecP lw cf ((b * 64) + (if 1 ≤ fr then fr else 1)).toNat (tt - (if 1 ≤ fr then fr else 1) + 1).toNat ((ecK iv fr tt hg lw cf w0 w1 (b).toNat).2.2)) := by
                    rw [hbn]
                    exact ecK_s (bf := bv) ((ecI_n (by omega) (by intro w; rcases w with ⟨w1, w2, w3⟩; first | omega | exact absurd w3 (by assumption))).trans (by omega)) (ite2_2 (by omega) rfl) (ite3_2 (by omega) (by omega) (by rw [hi2]))
                  have hK1 : (ecK iv fr tt hg lw cf w0 w1 (b + 1).toNat).1 = (bv, (ecK iv fr tt hg lw cf w0 w1 (b).toNat).2.1).1 := by rw [hK]
                  have hrw112 : gRn 257 ty 97 ((ecK iv fr tt hg lw cf w0 w1 (b + 1).toNat).2.1) hq101 := by rw [hK]; exact pr111
                  have hrw113 : gRn 257 ty 80 ((ecK iv fr tt hg lw cf w0 w1 (b + 1).toNat).2.2) hq101 := by rw [hK]; exact yq101_0
                  have hK2 : ((bv, (ecK iv fr tt hg lw cf w0 w1 (b).toNat).2.1)).1 = bv := rfl
                  refine gy_s 2 (pc' := 7) (L' := [some (.ref x), some (.int ((zi b) + zi 1))]) (S' := []) (L2 := [some (.ref x), some (.int (zi (b + 1)))]) (S2 := []) rfl (by simp only [zi_add, zi_sub, zi_mul, zi_neg, zi_and1, zi_and7, zi_and15, zi_and31, zi_and255]) (by simp only [zi_add, zi_sub, zi_mul, zi_neg, zi_and1, zi_and7, zi_and15, zi_and31, zi_and255]) ?_
                  exact gz_wk (ihlp12 hq101 (b + 1) bv (by omega) sq101 (by omega) (by omega) (by omega) (by omega) s102 s103 s104 s105 s106 s107 s108 s109 pr110 lp12k9 lp12k10 hrw112 hrw113) (gLw.s (gLw.s gLw.z))
                · refine gy_ifF rfl (by decide) (by decide) (by omega) hc99 ?_
                  have hwb114 : ewB (ecK iv fr tt hg lw cf w0 w1 (b).toNat).2.2 50000 := (ewB.of hywb1 (ecK_cnt (n := 257) (by omega) (by omega) (b).toNat).2 (by omega))
                  refine gy_s 4 (pc' := 86) (L' := [some (.ref x), some (.int (zi b))]) (S' := [.int ((zi b) * (zi 64)), .ref x]) (L2 := [some (.ref x), some (.int (zi b))]) (S2 := [.int (zi (b * 64)), .ref x]) rfl (by simp only [zi_add, zi_sub, zi_mul, zi_neg, zi_and1, zi_and7, zi_and15, zi_and31, zi_and255]) (by simp only [zi_add, zi_sub, zi_mul, zi_neg, zi_and1, zi_and7, zi_and15, zi_and31, zi_and255]) ?_
                  refine gz_call rfl (by decide) rfl (by decide) (by decide) (gcal_of rfl rfl rfl (Nat.le_of_ble_eq_true rfl) (gJ.recv (G := gGG) sh13.1 tx rfl rfl)) (cn_refineOthers _ sh13.1 x tx (b * 64) ⟨by omega, by omega⟩ cg lp12k0 ⟨by omega, by omega⟩ fr lp12k1 ⟨by omega, by omega⟩ tt lp12k2 ⟨by omega, by omega⟩ lw lp12k4 ⟨by omega, by omega⟩ bs lp12k5 ⟨by omega, by omega⟩ ((ecK iv fr tt hg lw cf w0 w1 (b).toNat).2.2) cf (by omega) (by omega) uq lp12k12 hwb114 lp12k8) (fun q115 _ wq115 => ?_)
                  obtain ⟨pq115, oq115, hq115⟩ := q115
                  obtain ⟨xq115, gq115, yq115_0⟩ := wq115
                  refine ⟨_, gq115, ?_⟩
                  show gz gPP gGG gcn _ _ 89 [some (.ref x), some (.int (zi b))] [] hq115 _
                  have sq115 : gSs rT 1027 ty [71012, 71013, 71014, 80999, 97999] h hq115 := gSs.tr sh13 xq115 (by decide)
                  have s116 := (xq115.2.2.2.2.2 x 11 (by rw [tx]; decide)).trans lp12k0
                  have s117 := (xq115.2.2.2.2.2 x 7 (by rw [tx]; decide)).trans lp12k1
                  have s118 := (xq115.2.2.2.2.2 x 8 (by rw [tx]; decide)).trans lp12k2
                  have s119 := (xq115.2.2.2.2.2 x 9 (by rw [tx]; decide)).trans lp12k3
                  have s120 := (xq115.2.2.2.2.2 x 10 (by rw [tx]; decide)).trans lp12k4
                  have s121 := (xq115.2.2.2.2.2 x 5 (by rw [tx]; decide)).trans lp12k5
                  have s122 := (xq115.2.2.2.2.2 x 6 (by rw [tx]; decide)).trans lp12k6
                  have s123 := (xq115.2.2.2.2.2 x 12 (by rw [tx]; decide)).trans lp12k7
                  have pr124 := gRn.fr xq115.2 (by decide) lp12k8
                  have pr125 := gRn.fr xq115.2 (by decide) lp12k11
                  refine gz_s 1 (pc' := 107) (L' := [some (.ref x), some (.int (zi b))]) (S' := []) rfl ?_
                  have hK : ecK iv fr tt hg lw cf w0 w1 (b + 1).toNat = ((bv, (ecK iv fr tt hg lw cf w0 w1 (b).toNat).2.1).1, (bv, (ecK iv fr tt hg lw cf w0 w1 (b).toNat).2.1).2, eeRz ecS ecP lw cf (b * 64) fr tt ((ecK iv fr tt hg lw cf w0 w1 (b).toNat).2.2)) := by
                    rw [hbn]
                    exact ecK_s (bf := bv) ((ecI_n (by omega) (by intro w; rcases w with ⟨w1, w2, w3⟩; first | omega | exact absurd w3 (by assumption))).trans (by omega)) (ite2_2 (by omega) rfl) (ite3_1 ⟨by omega, by omega⟩ (by unfold eeRz; rw [hi1]))
                  have hK1 : (ecK iv fr tt hg lw cf w0 w1 (b + 1).toNat).1 = (bv, (ecK iv fr tt hg lw cf w0 w1 (b).toNat).2.1).1 := by rw [hK]
                  have hrw126 : gRn 257 ty 97 ((ecK iv fr tt hg lw cf w0 w1 (b + 1).toNat).2.1) hq115 := by rw [hK]; exact pr125
                  have hrw127 : gRn 257 ty 80 ((ecK iv fr tt hg lw cf w0 w1 (b + 1).toNat).2.2) hq115 := by rw [hK]; exact yq115_0
                  have hK2 : ((bv, (ecK iv fr tt hg lw cf w0 w1 (b).toNat).2.1)).1 = bv := rfl
                  refine gy_s 2 (pc' := 7) (L' := [some (.ref x), some (.int ((zi b) + zi 1))]) (S' := []) (L2 := [some (.ref x), some (.int (zi (b + 1)))]) (S2 := []) rfl (by simp only [zi_add, zi_sub, zi_mul, zi_neg, zi_and1, zi_and7, zi_and15, zi_and31, zi_and255]) (by simp only [zi_add, zi_sub, zi_mul, zi_neg, zi_and1, zi_and7, zi_and15, zi_and31, zi_and255]) ?_
                  exact gz_wk (ihlp12 hq115 (b + 1) bv (by omega) sq115 (by omega) (by omega) (by omega) (by omega) s116 s117 s118 s119 s120 s121 s122 s123 pr124 lp12k9 lp12k10 hrw126 hrw127) (gLw.s (gLw.s gLw.z))
            · refine gy_ifF rfl (by decide) (by decide) (by omega) hc95 ?_
              have hwb128 : ewB ((ecK iv fr tt hg lw cf w0 w1 (b).toNat).2.1) 90000 := (ewB.of hywb0 (ecK_cnt (n := 257) (by omega) (by omega) (b).toNat).1 (by omega))
              refine gy_s 4 (pc' := 64) (L' := [some (.ref x), some (.int (zi b))]) (S' := [.int ((zi b) * (zi 64)), .ref x]) (L2 := [some (.ref x), some (.int (zi b))]) (S2 := [.int (zi (b * 64)), .ref x]) rfl (by simp only [zi_add, zi_sub, zi_mul, zi_neg, zi_and1, zi_and7, zi_and15, zi_and31, zi_and255]) (by simp only [zi_add, zi_sub, zi_mul, zi_neg, zi_and1, zi_and7, zi_and15, zi_and31, zi_and255]) ?_
              refine gz_call rfl (by decide) rfl (by decide) (by decide) (gcal_of rfl rfl rfl (Nat.le_of_ble_eq_true rfl) (gJ.recv (G := gGG) sh13.1 tx rfl rfl)) (cn_putFirst _ sh13.1 x tx (b * 64) ⟨by omega, by omega⟩ cg lp12k0 ⟨by omega, by omega⟩ lw lp12k4 ⟨by omega, by omega⟩ hg lp12k3 ⟨by omega, by omega⟩ bs lp12k5 ⟨by omega, by omega⟩ bv lp12k7 ⟨by omega, by omega⟩ ((ecK iv fr tt hg lw cf w0 w1 (b).toNat).2.1) cf (by omega) uq lp12k11 hwb128 lp12k8) (fun q129 _ wq129 => ?_)
              obtain ⟨pq129, oq129, hq129⟩ := q129
              obtain ⟨xq129, fq129_0, gq129, efq129_0, afq129_0, bfq129_0, uq129_0, yq129_0⟩ := wq129
              refine ⟨_, gq129, ?_⟩
              show gz gPP gGG gcn _ _ 67 [some (.ref x), some (.int (zi b))] [] hq129 _
              have sq129 : gSs rT 1027 ty [71012, 71013, 71014, 80999, 97999] h hq129 := gSs.tr sh13 xq129 (by decide)
              have s130 := (xq129.2.2.2.2.2 x 11 (by rw [tx]; decide)).trans lp12k0
              have s131 := (xq129.2.2.2.2.2 x 7 (by rw [tx]; decide)).trans lp12k1
              have s132 := (xq129.2.2.2.2.2 x 8 (by rw [tx]; decide)).trans lp12k2
              have s133 := (xq129.2.2.2.2.2 x 9 (by rw [tx]; decide)).trans lp12k3
              have s134 := (xq129.2.2.2.2.2 x 10 (by rw [tx]; decide)).trans lp12k4
              have s135 := (xq129.2.2.2.2.2 x 5 (by rw [tx]; decide)).trans lp12k5
              have s136 := (xq129.2.2.2.2.2 x 6 (by rw [tx]; decide)).trans lp12k6
              have pr137 := gRn.fr xq129.2 (by decide) lp12k8
              have pr138 := gRn.fr xq129.2 (by decide) lp12k12
              refine gz_s 1 (pc' := 68) (L' := [some (.ref x), some (.int (zi b))]) (S' := [.ref x]) rfl ?_
              refine gs_gtk rfl (by decide) rfl sq129.1 tx rfl rfl s132 ?_
              by_cases hc139 : (tt : Int) ≤ 0
              · refine gy_ifT (pc' := 92) rfl (by decide) (by decide) (by omega) hc139 ?_
                refine gz_s 1 (pc' := 93) (L' := [some (.ref x), some (.int (zi b))]) (S' := [.ref x]) rfl ?_
                refine gs_gtk rfl (by decide) rfl sq129.1 tx rfl rfl s132 ?_
                refine gy_ifT (pc' := 107) rfl (by decide) (by decide) ⟨by omega, by omega⟩ (by first | (simp [zc]; done) | (simp only [zc]; omega)) ?_
                have hK : ecK iv fr tt hg lw cf w0 w1 (b + 1).toNat = ((eeFi ecS ecP lw hg (cf ((b * 64)).toNat) bv ((ecK iv fr tt hg lw cf w0 w1 (b).toNat).2.1)).1, (eeFi ecS ecP lw hg (cf ((b * 64)).toNat) bv ((ecK iv fr tt hg lw cf w0 w1 (b).toNat).2.1)).2, (ecK iv fr tt hg lw cf w0 w1 (b).toNat).2.2) := by
                  rw [hbn]
                  exact ecK_s (bf := bv) ((ecI_n (by omega) (by intro w; rcases w with ⟨w1, w2, w3⟩; first | omega | exact absurd w3 (by assumption))).trans (by omega)) (ite2_1 (by omega) (by rw [hi0])) (ite3_3 (by omega) (by omega) rfl)
                have hK1 : (ecK iv fr tt hg lw cf w0 w1 (b + 1).toNat).1 = (eeFi ecS ecP lw hg (cf ((b * 64)).toNat) bv ((ecK iv fr tt hg lw cf w0 w1 (b).toNat).2.1)).1 := by rw [hK]
                have hrw140 : gRn 257 ty 97 ((ecK iv fr tt hg lw cf w0 w1 (b + 1).toNat).2.1) hq129 := by rw [hK]; exact yq129_0
                have hrw141 : gRn 257 ty 80 ((ecK iv fr tt hg lw cf w0 w1 (b + 1).toNat).2.2) hq129 := by rw [hK]; exact pr138
                refine gy_s 2 (pc' := 7) (L' := [some (.ref x), some (.int ((zi b) + zi 1))]) (S' := []) (L2 := [some (.ref x), some (.int (zi (b + 1)))]) (S2 := []) rfl (by simp only [zi_add, zi_sub, zi_mul, zi_neg, zi_and1, zi_and7, zi_and15, zi_and31, zi_and255]) (by simp only [zi_add, zi_sub, zi_mul, zi_neg, zi_and1, zi_and7, zi_and15, zi_and31, zi_and255]) ?_
                exact gz_wk (ihlp12 hq129 (b + 1) fq129_0 (by omega) sq129 (by omega) (by omega) (by omega) (by omega) s130 s131 s132 s133 s134 s135 s136 efq129_0 pr137 lp12k9 lp12k10 hrw140 hrw141) (gLw.s (gLw.s gLw.z))
              · refine gy_ifF rfl (by decide) (by decide) (by omega) hc139 ?_
                refine gz_s 1 (pc' := 75) (L' := [some (.ref x), some (.int (zi b))]) (S' := [.ref x]) rfl ?_
                refine gs_gtk rfl (by decide) rfl sq129.1 tx rfl rfl s133 ?_
                by_cases hc142 : (hg : Int) ≤ 0
                · refine gy_ifT (pc' := 92) rfl (by decide) (by decide) (by omega) hc142 ?_
                  refine gz_s 1 (pc' := 93) (L' := [some (.ref x), some (.int (zi b))]) (S' := [.ref x]) rfl ?_
                  refine gs_gtk rfl (by decide) rfl sq129.1 tx rfl rfl s132 ?_
                  refine gy_ifF rfl (by decide) (by decide) ⟨by omega, by omega⟩ (by first | (simp [zc]; done) | (simp only [zc]; omega)) ?_
                  have hwb143 : ewB (ecK iv fr tt hg lw cf w0 w1 (b).toNat).2.2 50000 := (ewB.of hywb1 (ecK_cnt (n := 257) (by omega) (by omega) (b).toNat).2 (by omega))
                  refine gy_s 4 (pc' := 104) (L' := [some (.ref x), some (.int (zi b))]) (S' := [.int ((zi b) * (zi 64)), .ref x]) (L2 := [some (.ref x), some (.int (zi b))]) (S2 := [.int (zi (b * 64)), .ref x]) rfl (by simp only [zi_add, zi_sub, zi_mul, zi_neg, zi_and1, zi_and7, zi_and15, zi_and31, zi_and255]) (by simp only [zi_add, zi_sub, zi_mul, zi_neg, zi_and1, zi_and7, zi_and15, zi_and31, zi_and255]) ?_
                  refine gz_call rfl (by decide) rfl (by decide) (by decide) (gcal_of rfl rfl rfl (Nat.le_of_ble_eq_true rfl) (gJ.recv (G := gGG) sq129.1 tx rfl rfl)) (cn_putOthers _ sq129.1 x tx (b * 64) ⟨by omega, by omega⟩ cg s130 ⟨by omega, by omega⟩ fr s131 ⟨by omega, by omega⟩ tt s132 ⟨by omega, by omega⟩ lw s134 ⟨by omega, by omega⟩ bs s135 ⟨by omega, by omega⟩ ((ecK iv fr tt hg lw cf w0 w1 (b).toNat).2.2) cf (by omega) (by omega) (by omega) uq pr138 hwb143 pr137) (fun q144 _ wq144 => ?_)
                  obtain ⟨pq144, oq144, hq144⟩ := q144
                  obtain ⟨xq144, gq144, yq144_0⟩ := wq144
                  refine ⟨_, gq144, ?_⟩
                  show gz gPP gGG gcn _ _ 107 [some (.ref x), some (.int (zi b))] [] hq144 _
                  have sq144 : gSs rT 1027 ty [71012, 71013, 71014, 80999, 97999] h hq144 := gSs.tr sq129 xq144 (by decide)
                  have s145 := (xq144.2.2.2.2.2 x 11 (by rw [tx]; decide)).trans s130
                  have s146 := (xq144.2.2.2.2.2 x 7 (by rw [tx]; decide)).trans s131
                  have s147 := (xq144.2.2.2.2.2 x 8 (by rw [tx]; decide)).trans s132
                  have s148 := (xq144.2.2.2.2.2 x 9 (by rw [tx]; decide)).trans s133
                  have s149 := (xq144.2.2.2.2.2 x 10 (by rw [tx]; decide)).trans s134
                  have s150 := (xq144.2.2.2.2.2 x 5 (by rw [tx]; decide)).trans s135
                  have s151 := (xq144.2.2.2.2.2 x 6 (by rw [tx]; decide)).trans s136
                  have s152 := (xq144.2.2.2.2.2 x 12 (by rw [tx]; decide)).trans efq129_0
                  have pr153 := gRn.fr xq144.2 (by decide) pr137
                  have pr154 := gRn.fr xq144.2 (by decide) yq129_0
                  have hK : ecK iv fr tt hg lw cf w0 w1 (b + 1).toNat = ((eeFi ecS ecP lw hg (cf ((b * 64)).toNat) bv ((ecK iv fr tt hg lw cf w0 w1 (b).toNat).2.1)).1, (eeFi ecS ecP lw hg (cf ((b * 64)).toNat) bv ((ecK iv fr tt hg lw cf w0 w1 (b).toNat).2.1)).2, eeOt ecS ecP lw cf ((b * 64) + (if 1 ≤ fr then fr else 1)).toNat (tt - (if 1 ≤ fr then fr else 1) + 1).toNat ((ecK iv fr tt hg lw cf w0 w1 (b).toNat).2.2)) := by
                    rw [hbn]
                    exact ecK_s (bf := bv) ((ecI_n (by omega) (by intro w; rcases w with ⟨w1, w2, w3⟩; first | omega | exact absurd w3 (by assumption))).trans (by omega)) (ite2_1 (by omega) (by rw [hi0])) (ite3_2 (by omega) (by omega) (by rw [hi2]))
                  have hK1 : (ecK iv fr tt hg lw cf w0 w1 (b + 1).toNat).1 = (eeFi ecS ecP lw hg (cf ((b * 64)).toNat) bv ((ecK iv fr tt hg lw cf w0 w1 (b).toNat).2.1)).1 := by rw [hK]
                  have hrw155 : gRn 257 ty 97 ((ecK iv fr tt hg lw cf w0 w1 (b + 1).toNat).2.1) hq144 := by rw [hK]; exact pr154
                  have hrw156 : gRn 257 ty 80 ((ecK iv fr tt hg lw cf w0 w1 (b + 1).toNat).2.2) hq144 := by rw [hK]; exact yq144_0
                  refine gy_s 2 (pc' := 7) (L' := [some (.ref x), some (.int ((zi b) + zi 1))]) (S' := []) (L2 := [some (.ref x), some (.int (zi (b + 1)))]) (S2 := []) rfl (by simp only [zi_add, zi_sub, zi_mul, zi_neg, zi_and1, zi_and7, zi_and15, zi_and31, zi_and255]) (by simp only [zi_add, zi_sub, zi_mul, zi_neg, zi_and1, zi_and7, zi_and15, zi_and31, zi_and255]) ?_
                  exact gz_wk (ihlp12 hq144 (b + 1) fq129_0 (by omega) sq144 (by omega) (by omega) (by omega) (by omega) s145 s146 s147 s148 s149 s150 s151 s152 pr153 lp12k9 lp12k10 hrw155 hrw156) (gLw.s (gLw.s gLw.z))
                · refine gy_ifF rfl (by decide) (by decide) (by omega) hc142 ?_
                  have hwb157 : ewB (ecK iv fr tt hg lw cf w0 w1 (b).toNat).2.2 50000 := (ewB.of hywb1 (ecK_cnt (n := 257) (by omega) (by omega) (b).toNat).2 (by omega))
                  refine gy_s 4 (pc' := 86) (L' := [some (.ref x), some (.int (zi b))]) (S' := [.int ((zi b) * (zi 64)), .ref x]) (L2 := [some (.ref x), some (.int (zi b))]) (S2 := [.int (zi (b * 64)), .ref x]) rfl (by simp only [zi_add, zi_sub, zi_mul, zi_neg, zi_and1, zi_and7, zi_and15, zi_and31, zi_and255]) (by simp only [zi_add, zi_sub, zi_mul, zi_neg, zi_and1, zi_and7, zi_and15, zi_and31, zi_and255]) ?_
                  refine gz_call rfl (by decide) rfl (by decide) (by decide) (gcal_of rfl rfl rfl (Nat.le_of_ble_eq_true rfl) (gJ.recv (G := gGG) sq129.1 tx rfl rfl)) (cn_refineOthers _ sq129.1 x tx (b * 64) ⟨by omega, by omega⟩ cg s130 ⟨by omega, by omega⟩ fr s131 ⟨by omega, by omega⟩ tt s132 ⟨by omega, by omega⟩ lw s134 ⟨by omega, by omega⟩ bs s135 ⟨by omega, by omega⟩ ((ecK iv fr tt hg lw cf w0 w1 (b).toNat).2.2) cf (by omega) (by omega) uq pr138 hwb157 pr137) (fun q158 _ wq158 => ?_)
                  obtain ⟨pq158, oq158, hq158⟩ := q158
                  obtain ⟨xq158, gq158, yq158_0⟩ := wq158
                  refine ⟨_, gq158, ?_⟩
                  show gz gPP gGG gcn _ _ 89 [some (.ref x), some (.int (zi b))] [] hq158 _
                  have sq158 : gSs rT 1027 ty [71012, 71013, 71014, 80999, 97999] h hq158 := gSs.tr sq129 xq158 (by decide)
                  have s159 := (xq158.2.2.2.2.2 x 11 (by rw [tx]; decide)).trans s130
                  have s160 := (xq158.2.2.2.2.2 x 7 (by rw [tx]; decide)).trans s131
                  have s161 := (xq158.2.2.2.2.2 x 8 (by rw [tx]; decide)).trans s132
                  have s162 := (xq158.2.2.2.2.2 x 9 (by rw [tx]; decide)).trans s133
                  have s163 := (xq158.2.2.2.2.2 x 10 (by rw [tx]; decide)).trans s134
                  have s164 := (xq158.2.2.2.2.2 x 5 (by rw [tx]; decide)).trans s135
                  have s165 := (xq158.2.2.2.2.2 x 6 (by rw [tx]; decide)).trans s136
                  have s166 := (xq158.2.2.2.2.2 x 12 (by rw [tx]; decide)).trans efq129_0
                  have pr167 := gRn.fr xq158.2 (by decide) pr137
                  have pr168 := gRn.fr xq158.2 (by decide) yq129_0
                  refine gz_s 1 (pc' := 107) (L' := [some (.ref x), some (.int (zi b))]) (S' := []) rfl ?_
                  have hK : ecK iv fr tt hg lw cf w0 w1 (b + 1).toNat = ((eeFi ecS ecP lw hg (cf ((b * 64)).toNat) bv ((ecK iv fr tt hg lw cf w0 w1 (b).toNat).2.1)).1, (eeFi ecS ecP lw hg (cf ((b * 64)).toNat) bv ((ecK iv fr tt hg lw cf w0 w1 (b).toNat).2.1)).2, eeRz ecS ecP lw cf (b * 64) fr tt ((ecK iv fr tt hg lw cf w0 w1 (b).toNat).2.2)) := by
                    rw [hbn]
                    exact ecK_s (bf := bv) ((ecI_n (by omega) (by intro w; rcases w with ⟨w1, w2, w3⟩; first | omega | exact absurd w3 (by assumption))).trans (by omega)) (ite2_1 (by omega) (by rw [hi0])) (ite3_1 ⟨by omega, by omega⟩ (by unfold eeRz; rw [hi1]))
                  have hK1 : (ecK iv fr tt hg lw cf w0 w1 (b + 1).toNat).1 = (eeFi ecS ecP lw hg (cf ((b * 64)).toNat) bv ((ecK iv fr tt hg lw cf w0 w1 (b).toNat).2.1)).1 := by rw [hK]
                  have hrw169 : gRn 257 ty 97 ((ecK iv fr tt hg lw cf w0 w1 (b + 1).toNat).2.1) hq158 := by rw [hK]; exact pr168
                  have hrw170 : gRn 257 ty 80 ((ecK iv fr tt hg lw cf w0 w1 (b + 1).toNat).2.2) hq158 := by rw [hK]; exact yq158_0
                  refine gy_s 2 (pc' := 7) (L' := [some (.ref x), some (.int ((zi b) + zi 1))]) (S' := []) (L2 := [some (.ref x), some (.int (zi (b + 1)))]) (S2 := []) rfl (by simp only [zi_add, zi_sub, zi_mul, zi_neg, zi_and1, zi_and7, zi_and15, zi_and31, zi_and255]) (by simp only [zi_add, zi_sub, zi_mul, zi_neg, zi_and1, zi_and7, zi_and15, zi_and31, zi_and255]) ?_
                  exact gz_wk (ihlp12 hq158 (b + 1) fq129_0 (by omega) sq158 (by omega) (by omega) (by omega) (by omega) s159 s160 s161 s162 s163 s164 s165 s166 pr167 lp12k9 lp12k10 hrw169 hrw170) (gLw.s (gLw.s gLw.z))
          · refine gy_ifF rfl (by decide) (by decide) (by omega) hc94 ?_
            refine gz_s 2 (pc' := 28) (L' := [some (.ref x), some (.int (zi b))]) (S' := [.ref x, .int (zi b)]) rfl ?_
            refine gs_gtk rfl (by decide) rfl sh13.1 tx rfl rfl lp12k6 ?_
            refine gy_rem rfl (by decide) (by omega) (by omega) ?_
            have hd171 := zm_f (x := b) (y := iv) (by omega) (by omega)
            by_cases hc172 : ¬ (b % iv : Int) = 0
            · refine gy_ifT (pc' := 52) rfl (by decide) (by decide) (by omega) hc172 ?_
              refine gz_s 1 (pc' := 53) (L' := [some (.ref x), some (.int (zi b))]) (S' := [.ref x]) rfl ?_
              refine gs_gtk rfl (by decide) rfl sh13.1 tx rfl rfl lp12k1 ?_
              by_cases hc173 : ¬ (fr : Int) = 0
              · refine gy_ifT (pc' := 67) rfl (by decide) (by decide) (by omega) hc173 ?_
                refine gz_s 1 (pc' := 68) (L' := [some (.ref x), some (.int (zi b))]) (S' := [.ref x]) rfl ?_
                refine gs_gtk rfl (by decide) rfl sh13.1 tx rfl rfl lp12k2 ?_
                by_cases hc174 : (tt : Int) ≤ 0
                · refine gy_ifT (pc' := 92) rfl (by decide) (by decide) (by omega) hc174 ?_
                  refine gz_s 1 (pc' := 93) (L' := [some (.ref x), some (.int (zi b))]) (S' := [.ref x]) rfl ?_
                  refine gs_gtk rfl (by decide) rfl sh13.1 tx rfl rfl lp12k2 ?_
                  refine gy_ifT (pc' := 107) rfl (by decide) (by decide) ⟨by omega, by omega⟩ (by first | (simp [zc]; done) | (simp only [zc]; omega)) ?_
                  have hK : ecK iv fr tt hg lw cf w0 w1 (b + 1).toNat = ((bv, (ecK iv fr tt hg lw cf w0 w1 (b).toNat).2.1).1, (bv, (ecK iv fr tt hg lw cf w0 w1 (b).toNat).2.1).2, (ecK iv fr tt hg lw cf w0 w1 (b).toNat).2.2) := by
                    rw [hbn]
                    exact ecK_s (bf := bv) ((ecI_n (by omega) (by intro w; rcases w with ⟨w1, w2, w3⟩; first | omega | exact absurd w3 (by assumption))).trans (by omega)) (ite2_2 (by omega) rfl) (ite3_3 (by omega) (by omega) rfl)
                  have hK1 : (ecK iv fr tt hg lw cf w0 w1 (b + 1).toNat).1 = (bv, (ecK iv fr tt hg lw cf w0 w1 (b).toNat).2.1).1 := by rw [hK]
                  have hrw175 : gRn 257 ty 97 ((ecK iv fr tt hg lw cf w0 w1 (b + 1).toNat).2.1) h13 := by rw [hK]; exact lp12k11
                  have hrw176 : gRn 257 ty 80 ((ecK iv fr tt hg lw cf w0 w1 (b + 1).toNat).2.2) h13 := by rw [hK]; exact lp12k12
                  have hK2 : ((bv, (ecK iv fr tt hg lw cf w0 w1 (b).toNat).2.1)).1 = bv := rfl
                  refine gy_s 2 (pc' := 7) (L' := [some (.ref x), some (.int ((zi b) + zi 1))]) (S' := []) (L2 := [some (.ref x), some (.int (zi (b + 1)))]) (S2 := []) rfl (by simp only [zi_add, zi_sub, zi_mul, zi_neg, zi_and1, zi_and7, zi_and15, zi_and31, zi_and255]) (by simp only [zi_add, zi_sub, zi_mul, zi_neg, zi_and1, zi_and7, zi_and15, zi_and31, zi_and255]) ?_
                  exact gz_wk (ihlp12 h13 (b + 1) bv (by omega) sh13 (by omega) (by omega) (by omega) (by omega) lp12k0 lp12k1 lp12k2 lp12k3 lp12k4 lp12k5 lp12k6 lp12k7 lp12k8 lp12k9 lp12k10 hrw175 hrw176) (gLw.s (gLw.s gLw.z))
                · refine gy_ifF rfl (by decide) (by decide) (by omega) hc174 ?_
                  refine gz_s 1 (pc' := 75) (L' := [some (.ref x), some (.int (zi b))]) (S' := [.ref x]) rfl ?_
                  refine gs_gtk rfl (by decide) rfl sh13.1 tx rfl rfl lp12k3 ?_
                  by_cases hc177 : (hg : Int) ≤ 0
                  · refine gy_ifT (pc' := 92) rfl (by decide) (by decide) (by omega) hc177 ?_
                    refine gz_s 1 (pc' := 93) (L' := [some (.ref x), some (.int (zi b))]) (S' := [.ref x]) rfl ?_
                    refine gs_gtk rfl (by decide) rfl sh13.1 tx rfl rfl lp12k2 ?_
                    refine gy_ifF rfl (by decide) (by decide) ⟨by omega, by omega⟩ (by first | (simp [zc]; done) | (simp only [zc]; omega)) ?_
                    have hwb178 : ewB (ecK iv fr tt hg lw cf w0 w1 (b).toNat).2.2 50000 := (ewB.of hywb1 (ecK_cnt (n := 257) (by omega) (by omega) (b).toNat).2 (by omega))
                    refine gy_s 4 (pc' := 104) (L' := [some (.ref x), some (.int (zi b))]) (S' := [.int ((zi b) * (zi 64)), .ref x]) (L2 := [some (.ref x), some (.int (zi b))]) (S2 := [.int (zi (b * 64)), .ref x]) rfl (by simp only [zi_add, zi_sub, zi_mul, zi_neg, zi_and1, zi_and7, zi_and15, zi_and31, zi_and255]) (by simp only [zi_add, zi_sub, zi_mul, zi_neg, zi_and1, zi_and7, zi_and15, zi_and31, zi_and255]) ?_
                    refine gz_call rfl (by decide) rfl (by decide) (by decide) (gcal_of rfl rfl rfl (Nat.le_of_ble_eq_true rfl) (gJ.recv (G := gGG) sh13.1 tx rfl rfl)) (cn_putOthers _ sh13.1 x tx (b * 64) ⟨by omega, by omega⟩ cg lp12k0 ⟨by omega, by omega⟩ fr lp12k1 ⟨by omega, by omega⟩ tt lp12k2 ⟨by omega, by omega⟩ lw lp12k4 ⟨by omega, by omega⟩ bs lp12k5 ⟨by omega, by omega⟩ ((ecK iv fr tt hg lw cf w0 w1 (b).toNat).2.2) cf (by omega) (by omega) (by omega) uq lp12k12 hwb178 lp12k8) (fun q179 _ wq179 => ?_)
                    obtain ⟨pq179, oq179, hq179⟩ := q179
                    obtain ⟨xq179, gq179, yq179_0⟩ := wq179
                    refine ⟨_, gq179, ?_⟩
                    show gz gPP gGG gcn _ _ 107 [some (.ref x), some (.int (zi b))] [] hq179 _
                    have sq179 : gSs rT 1027 ty [71012, 71013, 71014, 80999, 97999] h hq179 := gSs.tr sh13 xq179 (by decide)
                    have s180 := (xq179.2.2.2.2.2 x 11 (by rw [tx]; decide)).trans lp12k0
                    have s181 := (xq179.2.2.2.2.2 x 7 (by rw [tx]; decide)).trans lp12k1
                    have s182 := (xq179.2.2.2.2.2 x 8 (by rw [tx]; decide)).trans lp12k2
                    have s183 := (xq179.2.2.2.2.2 x 9 (by rw [tx]; decide)).trans lp12k3
                    have s184 := (xq179.2.2.2.2.2 x 10 (by rw [tx]; decide)).trans lp12k4
                    have s185 := (xq179.2.2.2.2.2 x 5 (by rw [tx]; decide)).trans lp12k5
                    have s186 := (xq179.2.2.2.2.2 x 6 (by rw [tx]; decide)).trans lp12k6
                    have s187 := (xq179.2.2.2.2.2 x 12 (by rw [tx]; decide)).trans lp12k7
                    have pr188 := gRn.fr xq179.2 (by decide) lp12k8
                    have pr189 := gRn.fr xq179.2 (by decide) lp12k11
                    have hK : ecK iv fr tt hg lw cf w0 w1 (b + 1).toNat = ((bv, (ecK iv fr tt hg lw cf w0 w1 (b).toNat).2.1).1, (bv, (ecK iv fr tt hg lw cf w0 w1 (b).toNat).2.1).2, eeOt ecS ecP lw cf ((b * 64) + (if 1 ≤ fr then fr else 1)).toNat (tt - (if 1 ≤ fr then fr else 1) + 1).toNat ((ecK iv fr tt hg lw cf w0 w1 (b).toNat).2.2)) := by
                      rw [hbn]
                      exact ecK_s (bf := bv) ((ecI_n (by omega) (by intro w; rcases w with ⟨w1, w2, w3⟩; first | omega | exact absurd w3 (by assumption))).trans (by omega)) (ite2_2 (by omega) rfl) (ite3_2 (by omega) (by omega) (by rw [hi2]))
                    have hK1 : (ecK iv fr tt hg lw cf w0 w1 (b + 1).toNat).1 = (bv, (ecK iv fr tt hg lw cf w0 w1 (b).toNat).2.1).1 := by rw [hK]
                    have hrw190 : gRn 257 ty 97 ((ecK iv fr tt hg lw cf w0 w1 (b + 1).toNat).2.1) hq179 := by rw [hK]; exact pr189
                    have hrw191 : gRn 257 ty 80 ((ecK iv fr tt hg lw cf w0 w1 (b + 1).toNat).2.2) hq179 := by rw [hK]; exact yq179_0
                    have hK2 : ((bv, (ecK iv fr tt hg lw cf w0 w1 (b).toNat).2.1)).1 = bv := rfl
                    refine gy_s 2 (pc' := 7) (L' := [some (.ref x), some (.int ((zi b) + zi 1))]) (S' := []) (L2 := [some (.ref x), some (.int (zi (b + 1)))]) (S2 := []) rfl (by simp only [zi_add, zi_sub, zi_mul, zi_neg, zi_and1, zi_and7, zi_and15, zi_and31, zi_and255]) (by simp only [zi_add, zi_sub, zi_mul, zi_neg, zi_and1, zi_and7, zi_and15, zi_and31, zi_and255]) ?_
                    exact gz_wk (ihlp12 hq179 (b + 1) bv (by omega) sq179 (by omega) (by omega) (by omega) (by omega) s180 s181 s182 s183 s184 s185 s186 s187 pr188 lp12k9 lp12k10 hrw190 hrw191) (gLw.s (gLw.s gLw.z))
                  · refine gy_ifF rfl (by decide) (by decide) (by omega) hc177 ?_
                    have hwb192 : ewB (ecK iv fr tt hg lw cf w0 w1 (b).toNat).2.2 50000 := (ewB.of hywb1 (ecK_cnt (n := 257) (by omega) (by omega) (b).toNat).2 (by omega))
                    refine gy_s 4 (pc' := 86) (L' := [some (.ref x), some (.int (zi b))]) (S' := [.int ((zi b) * (zi 64)), .ref x]) (L2 := [some (.ref x), some (.int (zi b))]) (S2 := [.int (zi (b * 64)), .ref x]) rfl (by simp only [zi_add, zi_sub, zi_mul, zi_neg, zi_and1, zi_and7, zi_and15, zi_and31, zi_and255]) (by simp only [zi_add, zi_sub, zi_mul, zi_neg, zi_and1, zi_and7, zi_and15, zi_and31, zi_and255]) ?_
                    refine gz_call rfl (by decide) rfl (by decide) (by decide) (gcal_of rfl rfl rfl (Nat.le_of_ble_eq_true rfl) (gJ.recv (G := gGG) sh13.1 tx rfl rfl)) (cn_refineOthers _ sh13.1 x tx (b * 64) ⟨by omega, by omega⟩ cg lp12k0 ⟨by omega, by omega⟩ fr lp12k1 ⟨by omega, by omega⟩ tt lp12k2 ⟨by omega, by omega⟩ lw lp12k4 ⟨by omega, by omega⟩ bs lp12k5 ⟨by omega, by omega⟩ ((ecK iv fr tt hg lw cf w0 w1 (b).toNat).2.2) cf (by omega) (by omega) uq lp12k12 hwb192 lp12k8) (fun q193 _ wq193 => ?_)
                    obtain ⟨pq193, oq193, hq193⟩ := q193
                    obtain ⟨xq193, gq193, yq193_0⟩ := wq193
                    refine ⟨_, gq193, ?_⟩
                    show gz gPP gGG gcn _ _ 89 [some (.ref x), some (.int (zi b))] [] hq193 _
                    have sq193 : gSs rT 1027 ty [71012, 71013, 71014, 80999, 97999] h hq193 := gSs.tr sh13 xq193 (by decide)
                    have s194 := (xq193.2.2.2.2.2 x 11 (by rw [tx]; decide)).trans lp12k0
                    have s195 := (xq193.2.2.2.2.2 x 7 (by rw [tx]; decide)).trans lp12k1
                    have s196 := (xq193.2.2.2.2.2 x 8 (by rw [tx]; decide)).trans lp12k2
                    have s197 := (xq193.2.2.2.2.2 x 9 (by rw [tx]; decide)).trans lp12k3
                    have s198 := (xq193.2.2.2.2.2 x 10 (by rw [tx]; decide)).trans lp12k4
                    have s199 := (xq193.2.2.2.2.2 x 5 (by rw [tx]; decide)).trans lp12k5
                    have s200 := (xq193.2.2.2.2.2 x 6 (by rw [tx]; decide)).trans lp12k6
                    have s201 := (xq193.2.2.2.2.2 x 12 (by rw [tx]; decide)).trans lp12k7
                    have pr202 := gRn.fr xq193.2 (by decide) lp12k8
                    have pr203 := gRn.fr xq193.2 (by decide) lp12k11
                    refine gz_s 1 (pc' := 107) (L' := [some (.ref x), some (.int (zi b))]) (S' := []) rfl ?_
                    have hK : ecK iv fr tt hg lw cf w0 w1 (b + 1).toNat = ((bv, (ecK iv fr tt hg lw cf w0 w1 (b).toNat).2.1).1, (bv, (ecK iv fr tt hg lw cf w0 w1 (b).toNat).2.1).2, eeRz ecS ecP lw cf (b * 64) fr tt ((ecK iv fr tt hg lw cf w0 w1 (b).toNat).2.2)) := by
                      rw [hbn]
                      exact ecK_s (bf := bv) ((ecI_n (by omega) (by intro w; rcases w with ⟨w1, w2, w3⟩; first | omega | exact absurd w3 (by assumption))).trans (by omega)) (ite2_2 (by omega) rfl) (ite3_1 ⟨by omega, by omega⟩ (by unfold eeRz; rw [hi1]))
                    have hK1 : (ecK iv fr tt hg lw cf w0 w1 (b + 1).toNat).1 = (bv, (ecK iv fr tt hg lw cf w0 w1 (b).toNat).2.1).1 := by rw [hK]
                    have hrw204 : gRn 257 ty 97 ((ecK iv fr tt hg lw cf w0 w1 (b + 1).toNat).2.1) hq193 := by rw [hK]; exact pr203
                    have hrw205 : gRn 257 ty 80 ((ecK iv fr tt hg lw cf w0 w1 (b + 1).toNat).2.2) hq193 := by rw [hK]; exact yq193_0
                    have hK2 : ((bv, (ecK iv fr tt hg lw cf w0 w1 (b).toNat).2.1)).1 = bv := rfl
                    refine gy_s 2 (pc' := 7) (L' := [some (.ref x), some (.int ((zi b) + zi 1))]) (S' := []) (L2 := [some (.ref x), some (.int (zi (b + 1)))]) (S2 := []) rfl (by simp only [zi_add, zi_sub, zi_mul, zi_neg, zi_and1, zi_and7, zi_and15, zi_and31, zi_and255]) (by simp only [zi_add, zi_sub, zi_mul, zi_neg, zi_and1, zi_and7, zi_and15, zi_and31, zi_and255]) ?_
                    exact gz_wk (ihlp12 hq193 (b + 1) bv (by omega) sq193 (by omega) (by omega) (by omega) (by omega) s194 s195 s196 s197 s198 s199 s200 s201 pr202 lp12k9 lp12k10 hrw204 hrw205) (gLw.s (gLw.s gLw.z))
              · refine gy_ifF rfl (by decide) (by decide) (by omega) hc173 ?_
                have hwb206 : ewB ((ecK iv fr tt hg lw cf w0 w1 (b).toNat).2.1) 90000 := (ewB.of hywb0 (ecK_cnt (n := 257) (by omega) (by omega) (b).toNat).1 (by omega))
                refine gy_s 4 (pc' := 64) (L' := [some (.ref x), some (.int (zi b))]) (S' := [.int ((zi b) * (zi 64)), .ref x]) (L2 := [some (.ref x), some (.int (zi b))]) (S2 := [.int (zi (b * 64)), .ref x]) rfl (by simp only [zi_add, zi_sub, zi_mul, zi_neg, zi_and1, zi_and7, zi_and15, zi_and31, zi_and255]) (by simp only [zi_add, zi_sub, zi_mul, zi_neg, zi_and1, zi_and7, zi_and15, zi_and31, zi_and255]) ?_
                refine gz_call rfl (by decide) rfl (by decide) (by decide) (gcal_of rfl rfl rfl (Nat.le_of_ble_eq_true rfl) (gJ.recv (G := gGG) sh13.1 tx rfl rfl)) (cn_putFirst _ sh13.1 x tx (b * 64) ⟨by omega, by omega⟩ cg lp12k0 ⟨by omega, by omega⟩ lw lp12k4 ⟨by omega, by omega⟩ hg lp12k3 ⟨by omega, by omega⟩ bs lp12k5 ⟨by omega, by omega⟩ bv lp12k7 ⟨by omega, by omega⟩ ((ecK iv fr tt hg lw cf w0 w1 (b).toNat).2.1) cf (by omega) uq lp12k11 hwb206 lp12k8) (fun q207 _ wq207 => ?_)
                obtain ⟨pq207, oq207, hq207⟩ := q207
                obtain ⟨xq207, fq207_0, gq207, efq207_0, afq207_0, bfq207_0, uq207_0, yq207_0⟩ := wq207
                refine ⟨_, gq207, ?_⟩
                show gz gPP gGG gcn _ _ 67 [some (.ref x), some (.int (zi b))] [] hq207 _
                have sq207 : gSs rT 1027 ty [71012, 71013, 71014, 80999, 97999] h hq207 := gSs.tr sh13 xq207 (by decide)
                have s208 := (xq207.2.2.2.2.2 x 11 (by rw [tx]; decide)).trans lp12k0
                have s209 := (xq207.2.2.2.2.2 x 7 (by rw [tx]; decide)).trans lp12k1
                have s210 := (xq207.2.2.2.2.2 x 8 (by rw [tx]; decide)).trans lp12k2
                have s211 := (xq207.2.2.2.2.2 x 9 (by rw [tx]; decide)).trans lp12k3
                have s212 := (xq207.2.2.2.2.2 x 10 (by rw [tx]; decide)).trans lp12k4
                have s213 := (xq207.2.2.2.2.2 x 5 (by rw [tx]; decide)).trans lp12k5
                have s214 := (xq207.2.2.2.2.2 x 6 (by rw [tx]; decide)).trans lp12k6
                have pr215 := gRn.fr xq207.2 (by decide) lp12k8
                have pr216 := gRn.fr xq207.2 (by decide) lp12k12
                refine gz_s 1 (pc' := 68) (L' := [some (.ref x), some (.int (zi b))]) (S' := [.ref x]) rfl ?_
                refine gs_gtk rfl (by decide) rfl sq207.1 tx rfl rfl s210 ?_
                by_cases hc217 : (tt : Int) ≤ 0
                · refine gy_ifT (pc' := 92) rfl (by decide) (by decide) (by omega) hc217 ?_
                  refine gz_s 1 (pc' := 93) (L' := [some (.ref x), some (.int (zi b))]) (S' := [.ref x]) rfl ?_
                  refine gs_gtk rfl (by decide) rfl sq207.1 tx rfl rfl s210 ?_
                  refine gy_ifT (pc' := 107) rfl (by decide) (by decide) ⟨by omega, by omega⟩ (by first | (simp [zc]; done) | (simp only [zc]; omega)) ?_
                  have hK : ecK iv fr tt hg lw cf w0 w1 (b + 1).toNat = ((eeFi ecS ecP lw hg (cf ((b * 64)).toNat) bv ((ecK iv fr tt hg lw cf w0 w1 (b).toNat).2.1)).1, (eeFi ecS ecP lw hg (cf ((b * 64)).toNat) bv ((ecK iv fr tt hg lw cf w0 w1 (b).toNat).2.1)).2, (ecK iv fr tt hg lw cf w0 w1 (b).toNat).2.2) := by
                    rw [hbn]
                    exact ecK_s (bf := bv) ((ecI_n (by omega) (by intro w; rcases w with ⟨w1, w2, w3⟩; first | omega | exact absurd w3 (by assumption))).trans (by omega)) (ite2_1 (by omega) (by rw [hi0])) (ite3_3 (by omega) (by omega) rfl)
                  have hK1 : (ecK iv fr tt hg lw cf w0 w1 (b + 1).toNat).1 = (eeFi ecS ecP lw hg (cf ((b * 64)).toNat) bv ((ecK iv fr tt hg lw cf w0 w1 (b).toNat).2.1)).1 := by rw [hK]
                  have hrw218 : gRn 257 ty 97 ((ecK iv fr tt hg lw cf w0 w1 (b + 1).toNat).2.1) hq207 := by rw [hK]; exact yq207_0
                  have hrw219 : gRn 257 ty 80 ((ecK iv fr tt hg lw cf w0 w1 (b + 1).toNat).2.2) hq207 := by rw [hK]; exact pr216
                  refine gy_s 2 (pc' := 7) (L' := [some (.ref x), some (.int ((zi b) + zi 1))]) (S' := []) (L2 := [some (.ref x), some (.int (zi (b + 1)))]) (S2 := []) rfl (by simp only [zi_add, zi_sub, zi_mul, zi_neg, zi_and1, zi_and7, zi_and15, zi_and31, zi_and255]) (by simp only [zi_add, zi_sub, zi_mul, zi_neg, zi_and1, zi_and7, zi_and15, zi_and31, zi_and255]) ?_
                  exact gz_wk (ihlp12 hq207 (b + 1) fq207_0 (by omega) sq207 (by omega) (by omega) (by omega) (by omega) s208 s209 s210 s211 s212 s213 s214 efq207_0 pr215 lp12k9 lp12k10 hrw218 hrw219) (gLw.s (gLw.s gLw.z))
                · refine gy_ifF rfl (by decide) (by decide) (by omega) hc217 ?_
                  refine gz_s 1 (pc' := 75) (L' := [some (.ref x), some (.int (zi b))]) (S' := [.ref x]) rfl ?_
                  refine gs_gtk rfl (by decide) rfl sq207.1 tx rfl rfl s211 ?_
                  by_cases hc220 : (hg : Int) ≤ 0
                  · refine gy_ifT (pc' := 92) rfl (by decide) (by decide) (by omega) hc220 ?_
                    refine gz_s 1 (pc' := 93) (L' := [some (.ref x), some (.int (zi b))]) (S' := [.ref x]) rfl ?_
                    refine gs_gtk rfl (by decide) rfl sq207.1 tx rfl rfl s210 ?_
                    refine gy_ifF rfl (by decide) (by decide) ⟨by omega, by omega⟩ (by first | (simp [zc]; done) | (simp only [zc]; omega)) ?_
                    have hwb221 : ewB (ecK iv fr tt hg lw cf w0 w1 (b).toNat).2.2 50000 := (ewB.of hywb1 (ecK_cnt (n := 257) (by omega) (by omega) (b).toNat).2 (by omega))
                    refine gy_s 4 (pc' := 104) (L' := [some (.ref x), some (.int (zi b))]) (S' := [.int ((zi b) * (zi 64)), .ref x]) (L2 := [some (.ref x), some (.int (zi b))]) (S2 := [.int (zi (b * 64)), .ref x]) rfl (by simp only [zi_add, zi_sub, zi_mul, zi_neg, zi_and1, zi_and7, zi_and15, zi_and31, zi_and255]) (by simp only [zi_add, zi_sub, zi_mul, zi_neg, zi_and1, zi_and7, zi_and15, zi_and31, zi_and255]) ?_
                    refine gz_call rfl (by decide) rfl (by decide) (by decide) (gcal_of rfl rfl rfl (Nat.le_of_ble_eq_true rfl) (gJ.recv (G := gGG) sq207.1 tx rfl rfl)) (cn_putOthers _ sq207.1 x tx (b * 64) ⟨by omega, by omega⟩ cg s208 ⟨by omega, by omega⟩ fr s209 ⟨by omega, by omega⟩ tt s210 ⟨by omega, by omega⟩ lw s212 ⟨by omega, by omega⟩ bs s213 ⟨by omega, by omega⟩ ((ecK iv fr tt hg lw cf w0 w1 (b).toNat).2.2) cf (by omega) (by omega) (by omega) uq pr216 hwb221 pr215) (fun q222 _ wq222 => ?_)
                    obtain ⟨pq222, oq222, hq222⟩ := q222
                    obtain ⟨xq222, gq222, yq222_0⟩ := wq222
                    refine ⟨_, gq222, ?_⟩
                    show gz gPP gGG gcn _ _ 107 [some (.ref x), some (.int (zi b))] [] hq222 _
                    have sq222 : gSs rT 1027 ty [71012, 71013, 71014, 80999, 97999] h hq222 := gSs.tr sq207 xq222 (by decide)
                    have s223 := (xq222.2.2.2.2.2 x 11 (by rw [tx]; decide)).trans s208
                    have s224 := (xq222.2.2.2.2.2 x 7 (by rw [tx]; decide)).trans s209
                    have s225 := (xq222.2.2.2.2.2 x 8 (by rw [tx]; decide)).trans s210
                    have s226 := (xq222.2.2.2.2.2 x 9 (by rw [tx]; decide)).trans s211
                    have s227 := (xq222.2.2.2.2.2 x 10 (by rw [tx]; decide)).trans s212
                    have s228 := (xq222.2.2.2.2.2 x 5 (by rw [tx]; decide)).trans s213
                    have s229 := (xq222.2.2.2.2.2 x 6 (by rw [tx]; decide)).trans s214
                    have s230 := (xq222.2.2.2.2.2 x 12 (by rw [tx]; decide)).trans efq207_0
                    have pr231 := gRn.fr xq222.2 (by decide) pr215
                    have pr232 := gRn.fr xq222.2 (by decide) yq207_0
                    have hK : ecK iv fr tt hg lw cf w0 w1 (b + 1).toNat = ((eeFi ecS ecP lw hg (cf ((b * 64)).toNat) bv ((ecK iv fr tt hg lw cf w0 w1 (b).toNat).2.1)).1, (eeFi ecS ecP lw hg (cf ((b * 64)).toNat) bv ((ecK iv fr tt hg lw cf w0 w1 (b).toNat).2.1)).2, eeOt ecS ecP lw cf ((b * 64) + (if 1 ≤ fr then fr else 1)).toNat (tt - (if 1 ≤ fr then fr else 1) + 1).toNat ((ecK iv fr tt hg lw cf w0 w1 (b).toNat).2.2)) := by
                      rw [hbn]
                      exact ecK_s (bf := bv) ((ecI_n (by omega) (by intro w; rcases w with ⟨w1, w2, w3⟩; first | omega | exact absurd w3 (by assumption))).trans (by omega)) (ite2_1 (by omega) (by rw [hi0])) (ite3_2 (by omega) (by omega) (by rw [hi2]))
                    have hK1 : (ecK iv fr tt hg lw cf w0 w1 (b + 1).toNat).1 = (eeFi ecS ecP lw hg (cf ((b * 64)).toNat) bv ((ecK iv fr tt hg lw cf w0 w1 (b).toNat).2.1)).1 := by rw [hK]
                    have hrw233 : gRn 257 ty 97 ((ecK iv fr tt hg lw cf w0 w1 (b + 1).toNat).2.1) hq222 := by rw [hK]; exact pr232
                    have hrw234 : gRn 257 ty 80 ((ecK iv fr tt hg lw cf w0 w1 (b + 1).toNat).2.2) hq222 := by rw [hK]; exact yq222_0
                    refine gy_s 2 (pc' := 7) (L' := [some (.ref x), some (.int ((zi b) + zi 1))]) (S' := []) (L2 := [some (.ref x), some (.int (zi (b + 1)))]) (S2 := []) rfl (by simp only [zi_add, zi_sub, zi_mul, zi_neg, zi_and1, zi_and7, zi_and15, zi_and31, zi_and255]) (by simp only [zi_add, zi_sub, zi_mul, zi_neg, zi_and1, zi_and7, zi_and15, zi_and31, zi_and255]) ?_
                    exact gz_wk (ihlp12 hq222 (b + 1) fq207_0 (by omega) sq222 (by omega) (by omega) (by omega) (by omega) s223 s224 s225 s226 s227 s228 s229 s230 pr231 lp12k9 lp12k10 hrw233 hrw234) (gLw.s (gLw.s gLw.z))
                  · refine gy_ifF rfl (by decide) (by decide) (by omega) hc220 ?_
                    have hwb235 : ewB (ecK iv fr tt hg lw cf w0 w1 (b).toNat).2.2 50000 := (ewB.of hywb1 (ecK_cnt (n := 257) (by omega) (by omega) (b).toNat).2 (by omega))
                    refine gy_s 4 (pc' := 86) (L' := [some (.ref x), some (.int (zi b))]) (S' := [.int ((zi b) * (zi 64)), .ref x]) (L2 := [some (.ref x), some (.int (zi b))]) (S2 := [.int (zi (b * 64)), .ref x]) rfl (by simp only [zi_add, zi_sub, zi_mul, zi_neg, zi_and1, zi_and7, zi_and15, zi_and31, zi_and255]) (by simp only [zi_add, zi_sub, zi_mul, zi_neg, zi_and1, zi_and7, zi_and15, zi_and31, zi_and255]) ?_
                    refine gz_call rfl (by decide) rfl (by decide) (by decide) (gcal_of rfl rfl rfl (Nat.le_of_ble_eq_true rfl) (gJ.recv (G := gGG) sq207.1 tx rfl rfl)) (cn_refineOthers _ sq207.1 x tx (b * 64) ⟨by omega, by omega⟩ cg s208 ⟨by omega, by omega⟩ fr s209 ⟨by omega, by omega⟩ tt s210 ⟨by omega, by omega⟩ lw s212 ⟨by omega, by omega⟩ bs s213 ⟨by omega, by omega⟩ ((ecK iv fr tt hg lw cf w0 w1 (b).toNat).2.2) cf (by omega) (by omega) uq pr216 hwb235 pr215) (fun q236 _ wq236 => ?_)
                    obtain ⟨pq236, oq236, hq236⟩ := q236
                    obtain ⟨xq236, gq236, yq236_0⟩ := wq236
                    refine ⟨_, gq236, ?_⟩
                    show gz gPP gGG gcn _ _ 89 [some (.ref x), some (.int (zi b))] [] hq236 _
                    have sq236 : gSs rT 1027 ty [71012, 71013, 71014, 80999, 97999] h hq236 := gSs.tr sq207 xq236 (by decide)
                    have s237 := (xq236.2.2.2.2.2 x 11 (by rw [tx]; decide)).trans s208
                    have s238 := (xq236.2.2.2.2.2 x 7 (by rw [tx]; decide)).trans s209
                    have s239 := (xq236.2.2.2.2.2 x 8 (by rw [tx]; decide)).trans s210
                    have s240 := (xq236.2.2.2.2.2 x 9 (by rw [tx]; decide)).trans s211
                    have s241 := (xq236.2.2.2.2.2 x 10 (by rw [tx]; decide)).trans s212
                    have s242 := (xq236.2.2.2.2.2 x 5 (by rw [tx]; decide)).trans s213
                    have s243 := (xq236.2.2.2.2.2 x 6 (by rw [tx]; decide)).trans s214
                    have s244 := (xq236.2.2.2.2.2 x 12 (by rw [tx]; decide)).trans efq207_0
                    have pr245 := gRn.fr xq236.2 (by decide) pr215
                    have pr246 := gRn.fr xq236.2 (by decide) yq207_0
                    refine gz_s 1 (pc' := 107) (L' := [some (.ref x), some (.int (zi b))]) (S' := []) rfl ?_
                    have hK : ecK iv fr tt hg lw cf w0 w1 (b + 1).toNat = ((eeFi ecS ecP lw hg (cf ((b * 64)).toNat) bv ((ecK iv fr tt hg lw cf w0 w1 (b).toNat).2.1)).1, (eeFi ecS ecP lw hg (cf ((b * 64)).toNat) bv ((ecK iv fr tt hg lw cf w0 w1 (b).toNat).2.1)).2, eeRz ecS ecP lw cf (b * 64) fr tt ((ecK iv fr tt hg lw cf w0 w1 (b).toNat).2.2)) := by
                      rw [hbn]
                      exact ecK_s (bf := bv) ((ecI_n (by omega) (by intro w; rcases w with ⟨w1, w2, w3⟩; first | omega | exact absurd w3 (by assumption))).trans (by omega)) (ite2_1 (by omega) (by rw [hi0])) (ite3_1 ⟨by omega, by omega⟩ (by unfold eeRz; rw [hi1]))
                    have hK1 : (ecK iv fr tt hg lw cf w0 w1 (b + 1).toNat).1 = (eeFi ecS ecP lw hg (cf ((b * 64)).toNat) bv ((ecK iv fr tt hg lw cf w0 w1 (b).toNat).2.1)).1 := by rw [hK]
                    have hrw247 : gRn 257 ty 97 ((ecK iv fr tt hg lw cf w0 w1 (b + 1).toNat).2.1) hq236 := by rw [hK]; exact pr246
                    have hrw248 : gRn 257 ty 80 ((ecK iv fr tt hg lw cf w0 w1 (b + 1).toNat).2.2) hq236 := by rw [hK]; exact yq236_0
                    refine gy_s 2 (pc' := 7) (L' := [some (.ref x), some (.int ((zi b) + zi 1))]) (S' := []) (L2 := [some (.ref x), some (.int (zi (b + 1)))]) (S2 := []) rfl (by simp only [zi_add, zi_sub, zi_mul, zi_neg, zi_and1, zi_and7, zi_and15, zi_and31, zi_and255]) (by simp only [zi_add, zi_sub, zi_mul, zi_neg, zi_and1, zi_and7, zi_and15, zi_and31, zi_and255]) ?_
                    exact gz_wk (ihlp12 hq236 (b + 1) fq207_0 (by omega) sq236 (by omega) (by omega) (by omega) (by omega) s237 s238 s239 s240 s241 s242 s243 s244 pr245 lp12k9 lp12k10 hrw247 hrw248) (gLw.s (gLw.s gLw.z))
            · refine gy_ifF rfl (by decide) (by decide) (by omega) hc172 ?_
              refine gz_s 2 (pc' := 37) (L' := [some (.ref x), some (.int (zi b))]) (S' := [.int (zi 0), .ref x]) rfl ?_
              refine gs_put rfl (by decide) rfl sh13 tx rfl rfl rfl rfl (Or.inl rfl) (by decide) (by omega) (by omega) (fun h249 sh249 eh249 fh249 => ?_)
              have pr250 := gRn.pt fh249 tx (by decide) lp12k8
              have pr251 := gRn.pt fh249 tx (by decide) lp12k11
              have pr252 := gRn.pt fh249 tx (by decide) lp12k12
              have s253 := (fh249 x 11 (fun q => absurd q.2 (by decide))).trans lp12k0
              have s254 := (fh249 x 7 (fun q => absurd q.2 (by decide))).trans lp12k1
              have s255 := (fh249 x 8 (fun q => absurd q.2 (by decide))).trans lp12k2
              have s256 := (fh249 x 9 (fun q => absurd q.2 (by decide))).trans lp12k3
              have s257 := (fh249 x 10 (fun q => absurd q.2 (by decide))).trans lp12k4
              have s258 := (fh249 x 5 (fun q => absurd q.2 (by decide))).trans lp12k5
              have s259 := (fh249 x 6 (fun q => absurd q.2 (by decide))).trans lp12k6
              refine gz_s 3 (pc' := 43) (L' := [some (.ref x), some (.int (zi b))]) (S' := [.ref x, .int (zi b), .ref x]) rfl ?_
              refine gs_gtk rfl (by decide) rfl sh249.1 tx rfl rfl s259 ?_
              refine gy_div rfl (by decide) (by omega) (by omega) ?_
              have hd260 := zd_f (x := b) (y := iv) (by omega) (by omega)
              refine gy_s 2 (pc' := 49) (L' := [some (.ref x), some (.int (zi b))]) (S' := [.int ((zi (b / iv)) - (zi 1)), .ref x]) (L2 := [some (.ref x), some (.int (zi b))]) (S2 := [.int (zi ((b / iv) - 1)), .ref x]) rfl (by simp only [zi_add, zi_sub, zi_mul, zi_neg, zi_and1, zi_and7, zi_and15, zi_and31, zi_and255]) (by simp only [zi_add, zi_sub, zi_mul, zi_neg, zi_and1, zi_and7, zi_and15, zi_and31, zi_and255]) ?_
              refine gz_call rfl (by decide) rfl (by decide) (by decide) (gcal_of rfl rfl rfl (Nat.le_of_ble_eq_true rfl) (gJ.recv (G := gGG) sh249.1 tx rfl rfl)) (cn_putRestart _ sh249.1 x tx ((b / iv) - 1) ⟨by omega, by omega⟩ cg s253 ⟨by omega, by omega⟩ uq) (fun q261 _ wq261 => ?_)
              obtain ⟨pq261, oq261, hq261⟩ := q261
              obtain ⟨xq261, gq261⟩ := wq261
              refine ⟨_, gq261, ?_⟩
              show gz gPP gGG gcn _ _ 52 [some (.ref x), some (.int (zi b))] [] hq261 _
              have sq261 : gSs rT 1027 ty [71012, 71013, 71014, 80999, 97999] h hq261 := gSs.tr sh249 xq261 (by decide)
              have s262 := (xq261.2.2.2.2.2 x 11 (by rw [tx]; decide)).trans s253
              have s263 := (xq261.2.2.2.2.2 x 7 (by rw [tx]; decide)).trans s254
              have s264 := (xq261.2.2.2.2.2 x 8 (by rw [tx]; decide)).trans s255
              have s265 := (xq261.2.2.2.2.2 x 9 (by rw [tx]; decide)).trans s256
              have s266 := (xq261.2.2.2.2.2 x 10 (by rw [tx]; decide)).trans s257
              have s267 := (xq261.2.2.2.2.2 x 5 (by rw [tx]; decide)).trans s258
              have s268 := (xq261.2.2.2.2.2 x 6 (by rw [tx]; decide)).trans s259
              have s269 := (xq261.2.2.2.2.2 x 12 (by rw [tx]; decide)).trans eh249
              have pr270 := gRn.fr xq261.2 (by decide) pr250
              have pr271 := gRn.fr xq261.2 (by decide) pr251
              have pr272 := gRn.fr xq261.2 (by decide) pr252
              refine gz_s 1 (pc' := 53) (L' := [some (.ref x), some (.int (zi b))]) (S' := [.ref x]) rfl ?_
              refine gs_gtk rfl (by decide) rfl sq261.1 tx rfl rfl s263 ?_
              by_cases hc273 : ¬ (fr : Int) = 0
              · refine gy_ifT (pc' := 67) rfl (by decide) (by decide) (by omega) hc273 ?_
                refine gz_s 1 (pc' := 68) (L' := [some (.ref x), some (.int (zi b))]) (S' := [.ref x]) rfl ?_
                refine gs_gtk rfl (by decide) rfl sq261.1 tx rfl rfl s264 ?_
                by_cases hc274 : (tt : Int) ≤ 0
                · refine gy_ifT (pc' := 92) rfl (by decide) (by decide) (by omega) hc274 ?_
                  refine gz_s 1 (pc' := 93) (L' := [some (.ref x), some (.int (zi b))]) (S' := [.ref x]) rfl ?_
                  refine gs_gtk rfl (by decide) rfl sq261.1 tx rfl rfl s264 ?_
                  refine gy_ifT (pc' := 107) rfl (by decide) (by decide) ⟨by omega, by omega⟩ (by first | (simp [zc]; done) | (simp only [zc]; omega)) ?_
                  have hK : ecK iv fr tt hg lw cf w0 w1 (b + 1).toNat = ((0, (ecK iv fr tt hg lw cf w0 w1 (b).toNat).2.1).1, (0, (ecK iv fr tt hg lw cf w0 w1 (b).toNat).2.1).2, (ecK iv fr tt hg lw cf w0 w1 (b).toNat).2.2) := by
                    rw [hbn]
                    exact ecK_s (bf := 0) (ecI_y (by omega) (by omega) (by first | assumption | exact Decidable.not_not.mp (by assumption))) (ite2_2 (by omega) rfl) (ite3_3 (by omega) (by omega) rfl)
                  have hK1 : (ecK iv fr tt hg lw cf w0 w1 (b + 1).toNat).1 = (0, (ecK iv fr tt hg lw cf w0 w1 (b).toNat).2.1).1 := by rw [hK]
                  have hrw275 : gRn 257 ty 97 ((ecK iv fr tt hg lw cf w0 w1 (b + 1).toNat).2.1) hq261 := by rw [hK]; exact pr271
                  have hrw276 : gRn 257 ty 80 ((ecK iv fr tt hg lw cf w0 w1 (b + 1).toNat).2.2) hq261 := by rw [hK]; exact pr272
                  have hK2 : ((0, (ecK iv fr tt hg lw cf w0 w1 (b).toNat).2.1)).1 = 0 := rfl
                  refine gy_s 2 (pc' := 7) (L' := [some (.ref x), some (.int ((zi b) + zi 1))]) (S' := []) (L2 := [some (.ref x), some (.int (zi (b + 1)))]) (S2 := []) rfl (by simp only [zi_add, zi_sub, zi_mul, zi_neg, zi_and1, zi_and7, zi_and15, zi_and31, zi_and255]) (by simp only [zi_add, zi_sub, zi_mul, zi_neg, zi_and1, zi_and7, zi_and15, zi_and31, zi_and255]) ?_
                  exact gz_wk (ihlp12 hq261 (b + 1) 0 (by omega) sq261 (by omega) (by omega) (by omega) (by omega) s262 s263 s264 s265 s266 s267 s268 s269 pr270 lp12k9 lp12k10 hrw275 hrw276) (gLw.s (gLw.s gLw.z))
                · refine gy_ifF rfl (by decide) (by decide) (by omega) hc274 ?_
                  refine gz_s 1 (pc' := 75) (L' := [some (.ref x), some (.int (zi b))]) (S' := [.ref x]) rfl ?_
                  refine gs_gtk rfl (by decide) rfl sq261.1 tx rfl rfl s265 ?_
                  by_cases hc277 : (hg : Int) ≤ 0
                  · refine gy_ifT (pc' := 92) rfl (by decide) (by decide) (by omega) hc277 ?_
                    refine gz_s 1 (pc' := 93) (L' := [some (.ref x), some (.int (zi b))]) (S' := [.ref x]) rfl ?_
                    refine gs_gtk rfl (by decide) rfl sq261.1 tx rfl rfl s264 ?_
                    refine gy_ifF rfl (by decide) (by decide) ⟨by omega, by omega⟩ (by first | (simp [zc]; done) | (simp only [zc]; omega)) ?_
                    have hwb278 : ewB (ecK iv fr tt hg lw cf w0 w1 (b).toNat).2.2 50000 := (ewB.of hywb1 (ecK_cnt (n := 257) (by omega) (by omega) (b).toNat).2 (by omega))
                    refine gy_s 4 (pc' := 104) (L' := [some (.ref x), some (.int (zi b))]) (S' := [.int ((zi b) * (zi 64)), .ref x]) (L2 := [some (.ref x), some (.int (zi b))]) (S2 := [.int (zi (b * 64)), .ref x]) rfl (by simp only [zi_add, zi_sub, zi_mul, zi_neg, zi_and1, zi_and7, zi_and15, zi_and31, zi_and255]) (by simp only [zi_add, zi_sub, zi_mul, zi_neg, zi_and1, zi_and7, zi_and15, zi_and31, zi_and255]) ?_
                    refine gz_call rfl (by decide) rfl (by decide) (by decide) (gcal_of rfl rfl rfl (Nat.le_of_ble_eq_true rfl) (gJ.recv (G := gGG) sq261.1 tx rfl rfl)) (cn_putOthers _ sq261.1 x tx (b * 64) ⟨by omega, by omega⟩ cg s262 ⟨by omega, by omega⟩ fr s263 ⟨by omega, by omega⟩ tt s264 ⟨by omega, by omega⟩ lw s266 ⟨by omega, by omega⟩ bs s267 ⟨by omega, by omega⟩ ((ecK iv fr tt hg lw cf w0 w1 (b).toNat).2.2) cf (by omega) (by omega) (by omega) uq pr272 hwb278 pr270) (fun q279 _ wq279 => ?_)
                    obtain ⟨pq279, oq279, hq279⟩ := q279
                    obtain ⟨xq279, gq279, yq279_0⟩ := wq279
                    refine ⟨_, gq279, ?_⟩
                    show gz gPP gGG gcn _ _ 107 [some (.ref x), some (.int (zi b))] [] hq279 _
                    have sq279 : gSs rT 1027 ty [71012, 71013, 71014, 80999, 97999] h hq279 := gSs.tr sq261 xq279 (by decide)
                    have s280 := (xq279.2.2.2.2.2 x 11 (by rw [tx]; decide)).trans s262
                    have s281 := (xq279.2.2.2.2.2 x 7 (by rw [tx]; decide)).trans s263
                    have s282 := (xq279.2.2.2.2.2 x 8 (by rw [tx]; decide)).trans s264
                    have s283 := (xq279.2.2.2.2.2 x 9 (by rw [tx]; decide)).trans s265
                    have s284 := (xq279.2.2.2.2.2 x 10 (by rw [tx]; decide)).trans s266
                    have s285 := (xq279.2.2.2.2.2 x 5 (by rw [tx]; decide)).trans s267
                    have s286 := (xq279.2.2.2.2.2 x 6 (by rw [tx]; decide)).trans s268
                    have s287 := (xq279.2.2.2.2.2 x 12 (by rw [tx]; decide)).trans s269
                    have pr288 := gRn.fr xq279.2 (by decide) pr270
                    have pr289 := gRn.fr xq279.2 (by decide) pr271
                    have hK : ecK iv fr tt hg lw cf w0 w1 (b + 1).toNat = ((0, (ecK iv fr tt hg lw cf w0 w1 (b).toNat).2.1).1, (0, (ecK iv fr tt hg lw cf w0 w1 (b).toNat).2.1).2, eeOt ecS ecP lw cf ((b * 64) + (if 1 ≤ fr then fr else 1)).toNat (tt - (if 1 ≤ fr then fr else 1) + 1).toNat ((ecK iv fr tt hg lw cf w0 w1 (b).toNat).2.2)) := by
                      rw [hbn]
                      exact ecK_s (bf := 0) (ecI_y (by omega) (by omega) (by first | assumption | exact Decidable.not_not.mp (by assumption))) (ite2_2 (by omega) rfl) (ite3_2 (by omega) (by omega) (by rw [hi2]))
                    have hK1 : (ecK iv fr tt hg lw cf w0 w1 (b + 1).toNat).1 = (0, (ecK iv fr tt hg lw cf w0 w1 (b).toNat).2.1).1 := by rw [hK]
                    have hrw290 : gRn 257 ty 97 ((ecK iv fr tt hg lw cf w0 w1 (b + 1).toNat).2.1) hq279 := by rw [hK]; exact pr289
                    have hrw291 : gRn 257 ty 80 ((ecK iv fr tt hg lw cf w0 w1 (b + 1).toNat).2.2) hq279 := by rw [hK]; exact yq279_0
                    have hK2 : ((0, (ecK iv fr tt hg lw cf w0 w1 (b).toNat).2.1)).1 = 0 := rfl
                    refine gy_s 2 (pc' := 7) (L' := [some (.ref x), some (.int ((zi b) + zi 1))]) (S' := []) (L2 := [some (.ref x), some (.int (zi (b + 1)))]) (S2 := []) rfl (by simp only [zi_add, zi_sub, zi_mul, zi_neg, zi_and1, zi_and7, zi_and15, zi_and31, zi_and255]) (by simp only [zi_add, zi_sub, zi_mul, zi_neg, zi_and1, zi_and7, zi_and15, zi_and31, zi_and255]) ?_
                    exact gz_wk (ihlp12 hq279 (b + 1) 0 (by omega) sq279 (by omega) (by omega) (by omega) (by omega) s280 s281 s282 s283 s284 s285 s286 s287 pr288 lp12k9 lp12k10 hrw290 hrw291) (gLw.s (gLw.s gLw.z))
                  · refine gy_ifF rfl (by decide) (by decide) (by omega) hc277 ?_
                    have hwb292 : ewB (ecK iv fr tt hg lw cf w0 w1 (b).toNat).2.2 50000 := (ewB.of hywb1 (ecK_cnt (n := 257) (by omega) (by omega) (b).toNat).2 (by omega))
                    refine gy_s 4 (pc' := 86) (L' := [some (.ref x), some (.int (zi b))]) (S' := [.int ((zi b) * (zi 64)), .ref x]) (L2 := [some (.ref x), some (.int (zi b))]) (S2 := [.int (zi (b * 64)), .ref x]) rfl (by simp only [zi_add, zi_sub, zi_mul, zi_neg, zi_and1, zi_and7, zi_and15, zi_and31, zi_and255]) (by simp only [zi_add, zi_sub, zi_mul, zi_neg, zi_and1, zi_and7, zi_and15, zi_and31, zi_and255]) ?_
                    refine gz_call rfl (by decide) rfl (by decide) (by decide) (gcal_of rfl rfl rfl (Nat.le_of_ble_eq_true rfl) (gJ.recv (G := gGG) sq261.1 tx rfl rfl)) (cn_refineOthers _ sq261.1 x tx (b * 64) ⟨by omega, by omega⟩ cg s262 ⟨by omega, by omega⟩ fr s263 ⟨by omega, by omega⟩ tt s264 ⟨by omega, by omega⟩ lw s266 ⟨by omega, by omega⟩ bs s267 ⟨by omega, by omega⟩ ((ecK iv fr tt hg lw cf w0 w1 (b).toNat).2.2) cf (by omega) (by omega) uq pr272 hwb292 pr270) (fun q293 _ wq293 => ?_)
                    obtain ⟨pq293, oq293, hq293⟩ := q293
                    obtain ⟨xq293, gq293, yq293_0⟩ := wq293
                    refine ⟨_, gq293, ?_⟩
                    show gz gPP gGG gcn _ _ 89 [some (.ref x), some (.int (zi b))] [] hq293 _
                    have sq293 : gSs rT 1027 ty [71012, 71013, 71014, 80999, 97999] h hq293 := gSs.tr sq261 xq293 (by decide)
                    have s294 := (xq293.2.2.2.2.2 x 11 (by rw [tx]; decide)).trans s262
                    have s295 := (xq293.2.2.2.2.2 x 7 (by rw [tx]; decide)).trans s263
                    have s296 := (xq293.2.2.2.2.2 x 8 (by rw [tx]; decide)).trans s264
                    have s297 := (xq293.2.2.2.2.2 x 9 (by rw [tx]; decide)).trans s265
                    have s298 := (xq293.2.2.2.2.2 x 10 (by rw [tx]; decide)).trans s266
                    have s299 := (xq293.2.2.2.2.2 x 5 (by rw [tx]; decide)).trans s267
                    have s300 := (xq293.2.2.2.2.2 x 6 (by rw [tx]; decide)).trans s268
                    have s301 := (xq293.2.2.2.2.2 x 12 (by rw [tx]; decide)).trans s269
                    have pr302 := gRn.fr xq293.2 (by decide) pr270
                    have pr303 := gRn.fr xq293.2 (by decide) pr271
                    refine gz_s 1 (pc' := 107) (L' := [some (.ref x), some (.int (zi b))]) (S' := []) rfl ?_
                    have hK : ecK iv fr tt hg lw cf w0 w1 (b + 1).toNat = ((0, (ecK iv fr tt hg lw cf w0 w1 (b).toNat).2.1).1, (0, (ecK iv fr tt hg lw cf w0 w1 (b).toNat).2.1).2, eeRz ecS ecP lw cf (b * 64) fr tt ((ecK iv fr tt hg lw cf w0 w1 (b).toNat).2.2)) := by
                      rw [hbn]
                      exact ecK_s (bf := 0) (ecI_y (by omega) (by omega) (by first | assumption | exact Decidable.not_not.mp (by assumption))) (ite2_2 (by omega) rfl) (ite3_1 ⟨by omega, by omega⟩ (by unfold eeRz; rw [hi1]))
                    have hK1 : (ecK iv fr tt hg lw cf w0 w1 (b + 1).toNat).1 = (0, (ecK iv fr tt hg lw cf w0 w1 (b).toNat).2.1).1 := by rw [hK]
                    have hrw304 : gRn 257 ty 97 ((ecK iv fr tt hg lw cf w0 w1 (b + 1).toNat).2.1) hq293 := by rw [hK]; exact pr303
                    have hrw305 : gRn 257 ty 80 ((ecK iv fr tt hg lw cf w0 w1 (b + 1).toNat).2.2) hq293 := by rw [hK]; exact yq293_0
                    have hK2 : ((0, (ecK iv fr tt hg lw cf w0 w1 (b).toNat).2.1)).1 = 0 := rfl
                    refine gy_s 2 (pc' := 7) (L' := [some (.ref x), some (.int ((zi b) + zi 1))]) (S' := []) (L2 := [some (.ref x), some (.int (zi (b + 1)))]) (S2 := []) rfl (by simp only [zi_add, zi_sub, zi_mul, zi_neg, zi_and1, zi_and7, zi_and15, zi_and31, zi_and255]) (by simp only [zi_add, zi_sub, zi_mul, zi_neg, zi_and1, zi_and7, zi_and15, zi_and31, zi_and255]) ?_
                    exact gz_wk (ihlp12 hq293 (b + 1) 0 (by omega) sq293 (by omega) (by omega) (by omega) (by omega) s294 s295 s296 s297 s298 s299 s300 s301 pr302 lp12k9 lp12k10 hrw304 hrw305) (gLw.s (gLw.s gLw.z))
              · refine gy_ifF rfl (by decide) (by decide) (by omega) hc273 ?_
                have hwb306 : ewB ((ecK iv fr tt hg lw cf w0 w1 (b).toNat).2.1) 90000 := (ewB.of hywb0 (ecK_cnt (n := 257) (by omega) (by omega) (b).toNat).1 (by omega))
                refine gy_s 4 (pc' := 64) (L' := [some (.ref x), some (.int (zi b))]) (S' := [.int ((zi b) * (zi 64)), .ref x]) (L2 := [some (.ref x), some (.int (zi b))]) (S2 := [.int (zi (b * 64)), .ref x]) rfl (by simp only [zi_add, zi_sub, zi_mul, zi_neg, zi_and1, zi_and7, zi_and15, zi_and31, zi_and255]) (by simp only [zi_add, zi_sub, zi_mul, zi_neg, zi_and1, zi_and7, zi_and15, zi_and31, zi_and255]) ?_
                refine gz_call rfl (by decide) rfl (by decide) (by decide) (gcal_of rfl rfl rfl (Nat.le_of_ble_eq_true rfl) (gJ.recv (G := gGG) sq261.1 tx rfl rfl)) (cn_putFirst _ sq261.1 x tx (b * 64) ⟨by omega, by omega⟩ cg s262 ⟨by omega, by omega⟩ lw s266 ⟨by omega, by omega⟩ hg s265 ⟨by omega, by omega⟩ bs s267 ⟨by omega, by omega⟩ 0 s269 ⟨by omega, by omega⟩ ((ecK iv fr tt hg lw cf w0 w1 (b).toNat).2.1) cf (by omega) uq pr271 hwb306 pr270) (fun q307 _ wq307 => ?_)
                obtain ⟨pq307, oq307, hq307⟩ := q307
                obtain ⟨xq307, fq307_0, gq307, efq307_0, afq307_0, bfq307_0, uq307_0, yq307_0⟩ := wq307
                refine ⟨_, gq307, ?_⟩
                show gz gPP gGG gcn _ _ 67 [some (.ref x), some (.int (zi b))] [] hq307 _
                have sq307 : gSs rT 1027 ty [71012, 71013, 71014, 80999, 97999] h hq307 := gSs.tr sq261 xq307 (by decide)
                have s308 := (xq307.2.2.2.2.2 x 11 (by rw [tx]; decide)).trans s262
                have s309 := (xq307.2.2.2.2.2 x 7 (by rw [tx]; decide)).trans s263
                have s310 := (xq307.2.2.2.2.2 x 8 (by rw [tx]; decide)).trans s264
                have s311 := (xq307.2.2.2.2.2 x 9 (by rw [tx]; decide)).trans s265
                have s312 := (xq307.2.2.2.2.2 x 10 (by rw [tx]; decide)).trans s266
                have s313 := (xq307.2.2.2.2.2 x 5 (by rw [tx]; decide)).trans s267
                have s314 := (xq307.2.2.2.2.2 x 6 (by rw [tx]; decide)).trans s268
                have pr315 := gRn.fr xq307.2 (by decide) pr270
                have pr316 := gRn.fr xq307.2 (by decide) pr272
                refine gz_s 1 (pc' := 68) (L' := [some (.ref x), some (.int (zi b))]) (S' := [.ref x]) rfl ?_
                refine gs_gtk rfl (by decide) rfl sq307.1 tx rfl rfl s310 ?_
                by_cases hc317 : (tt : Int) ≤ 0
                · refine gy_ifT (pc' := 92) rfl (by decide) (by decide) (by omega) hc317 ?_
                  refine gz_s 1 (pc' := 93) (L' := [some (.ref x), some (.int (zi b))]) (S' := [.ref x]) rfl ?_
                  refine gs_gtk rfl (by decide) rfl sq307.1 tx rfl rfl s310 ?_
                  refine gy_ifT (pc' := 107) rfl (by decide) (by decide) ⟨by omega, by omega⟩ (by first | (simp [zc]; done) | (simp only [zc]; omega)) ?_
                  have hK : ecK iv fr tt hg lw cf w0 w1 (b + 1).toNat = ((eeFi ecS ecP lw hg (cf ((b * 64)).toNat) 0 ((ecK iv fr tt hg lw cf w0 w1 (b).toNat).2.1)).1, (eeFi ecS ecP lw hg (cf ((b * 64)).toNat) 0 ((ecK iv fr tt hg lw cf w0 w1 (b).toNat).2.1)).2, (ecK iv fr tt hg lw cf w0 w1 (b).toNat).2.2) := by
                    rw [hbn]
                    exact ecK_s (bf := 0) (ecI_y (by omega) (by omega) (by first | assumption | exact Decidable.not_not.mp (by assumption))) (ite2_1 (by omega) (by rw [hi0])) (ite3_3 (by omega) (by omega) rfl)
                  have hK1 : (ecK iv fr tt hg lw cf w0 w1 (b + 1).toNat).1 = (eeFi ecS ecP lw hg (cf ((b * 64)).toNat) 0 ((ecK iv fr tt hg lw cf w0 w1 (b).toNat).2.1)).1 := by rw [hK]
                  have hrw318 : gRn 257 ty 97 ((ecK iv fr tt hg lw cf w0 w1 (b + 1).toNat).2.1) hq307 := by rw [hK]; exact yq307_0
                  have hrw319 : gRn 257 ty 80 ((ecK iv fr tt hg lw cf w0 w1 (b + 1).toNat).2.2) hq307 := by rw [hK]; exact pr316
                  refine gy_s 2 (pc' := 7) (L' := [some (.ref x), some (.int ((zi b) + zi 1))]) (S' := []) (L2 := [some (.ref x), some (.int (zi (b + 1)))]) (S2 := []) rfl (by simp only [zi_add, zi_sub, zi_mul, zi_neg, zi_and1, zi_and7, zi_and15, zi_and31, zi_and255]) (by simp only [zi_add, zi_sub, zi_mul, zi_neg, zi_and1, zi_and7, zi_and15, zi_and31, zi_and255]) ?_
                  exact gz_wk (ihlp12 hq307 (b + 1) fq307_0 (by omega) sq307 (by omega) (by omega) (by omega) (by omega) s308 s309 s310 s311 s312 s313 s314 efq307_0 pr315 lp12k9 lp12k10 hrw318 hrw319) (gLw.s (gLw.s gLw.z))
                · refine gy_ifF rfl (by decide) (by decide) (by omega) hc317 ?_
                  refine gz_s 1 (pc' := 75) (L' := [some (.ref x), some (.int (zi b))]) (S' := [.ref x]) rfl ?_
                  refine gs_gtk rfl (by decide) rfl sq307.1 tx rfl rfl s311 ?_
                  by_cases hc320 : (hg : Int) ≤ 0
                  · refine gy_ifT (pc' := 92) rfl (by decide) (by decide) (by omega) hc320 ?_
                    refine gz_s 1 (pc' := 93) (L' := [some (.ref x), some (.int (zi b))]) (S' := [.ref x]) rfl ?_
                    refine gs_gtk rfl (by decide) rfl sq307.1 tx rfl rfl s310 ?_
                    refine gy_ifF rfl (by decide) (by decide) ⟨by omega, by omega⟩ (by first | (simp [zc]; done) | (simp only [zc]; omega)) ?_
                    have hwb321 : ewB (ecK iv fr tt hg lw cf w0 w1 (b).toNat).2.2 50000 := (ewB.of hywb1 (ecK_cnt (n := 257) (by omega) (by omega) (b).toNat).2 (by omega))
                    refine gy_s 4 (pc' := 104) (L' := [some (.ref x), some (.int (zi b))]) (S' := [.int ((zi b) * (zi 64)), .ref x]) (L2 := [some (.ref x), some (.int (zi b))]) (S2 := [.int (zi (b * 64)), .ref x]) rfl (by simp only [zi_add, zi_sub, zi_mul, zi_neg, zi_and1, zi_and7, zi_and15, zi_and31, zi_and255]) (by simp only [zi_add, zi_sub, zi_mul, zi_neg, zi_and1, zi_and7, zi_and15, zi_and31, zi_and255]) ?_
                    refine gz_call rfl (by decide) rfl (by decide) (by decide) (gcal_of rfl rfl rfl (Nat.le_of_ble_eq_true rfl) (gJ.recv (G := gGG) sq307.1 tx rfl rfl)) (cn_putOthers _ sq307.1 x tx (b * 64) ⟨by omega, by omega⟩ cg s308 ⟨by omega, by omega⟩ fr s309 ⟨by omega, by omega⟩ tt s310 ⟨by omega, by omega⟩ lw s312 ⟨by omega, by omega⟩ bs s313 ⟨by omega, by omega⟩ ((ecK iv fr tt hg lw cf w0 w1 (b).toNat).2.2) cf (by omega) (by omega) (by omega) uq pr316 hwb321 pr315) (fun q322 _ wq322 => ?_)
                    obtain ⟨pq322, oq322, hq322⟩ := q322
                    obtain ⟨xq322, gq322, yq322_0⟩ := wq322
                    refine ⟨_, gq322, ?_⟩
                    show gz gPP gGG gcn _ _ 107 [some (.ref x), some (.int (zi b))] [] hq322 _
                    have sq322 : gSs rT 1027 ty [71012, 71013, 71014, 80999, 97999] h hq322 := gSs.tr sq307 xq322 (by decide)
                    have s323 := (xq322.2.2.2.2.2 x 11 (by rw [tx]; decide)).trans s308
                    have s324 := (xq322.2.2.2.2.2 x 7 (by rw [tx]; decide)).trans s309
                    have s325 := (xq322.2.2.2.2.2 x 8 (by rw [tx]; decide)).trans s310
                    have s326 := (xq322.2.2.2.2.2 x 9 (by rw [tx]; decide)).trans s311
                    have s327 := (xq322.2.2.2.2.2 x 10 (by rw [tx]; decide)).trans s312
                    have s328 := (xq322.2.2.2.2.2 x 5 (by rw [tx]; decide)).trans s313
                    have s329 := (xq322.2.2.2.2.2 x 6 (by rw [tx]; decide)).trans s314
                    have s330 := (xq322.2.2.2.2.2 x 12 (by rw [tx]; decide)).trans efq307_0
                    have pr331 := gRn.fr xq322.2 (by decide) pr315
                    have pr332 := gRn.fr xq322.2 (by decide) yq307_0
                    have hK : ecK iv fr tt hg lw cf w0 w1 (b + 1).toNat = ((eeFi ecS ecP lw hg (cf ((b * 64)).toNat) 0 ((ecK iv fr tt hg lw cf w0 w1 (b).toNat).2.1)).1, (eeFi ecS ecP lw hg (cf ((b * 64)).toNat) 0 ((ecK iv fr tt hg lw cf w0 w1 (b).toNat).2.1)).2, eeOt ecS ecP lw cf ((b * 64) + (if 1 ≤ fr then fr else 1)).toNat (tt - (if 1 ≤ fr then fr else 1) + 1).toNat ((ecK iv fr tt hg lw cf w0 w1 (b).toNat).2.2)) := by
                      rw [hbn]
                      exact ecK_s (bf := 0) (ecI_y (by omega) (by omega) (by first | assumption | exact Decidable.not_not.mp (by assumption))) (ite2_1 (by omega) (by rw [hi0])) (ite3_2 (by omega) (by omega) (by rw [hi2]))
                    have hK1 : (ecK iv fr tt hg lw cf w0 w1 (b + 1).toNat).1 = (eeFi ecS ecP lw hg (cf ((b * 64)).toNat) 0 ((ecK iv fr tt hg lw cf w0 w1 (b).toNat).2.1)).1 := by rw [hK]
                    have hrw333 : gRn 257 ty 97 ((ecK iv fr tt hg lw cf w0 w1 (b + 1).toNat).2.1) hq322 := by rw [hK]; exact pr332
                    have hrw334 : gRn 257 ty 80 ((ecK iv fr tt hg lw cf w0 w1 (b + 1).toNat).2.2) hq322 := by rw [hK]; exact yq322_0
                    refine gy_s 2 (pc' := 7) (L' := [some (.ref x), some (.int ((zi b) + zi 1))]) (S' := []) (L2 := [some (.ref x), some (.int (zi (b + 1)))]) (S2 := []) rfl (by simp only [zi_add, zi_sub, zi_mul, zi_neg, zi_and1, zi_and7, zi_and15, zi_and31, zi_and255]) (by simp only [zi_add, zi_sub, zi_mul, zi_neg, zi_and1, zi_and7, zi_and15, zi_and31, zi_and255]) ?_
                    exact gz_wk (ihlp12 hq322 (b + 1) fq307_0 (by omega) sq322 (by omega) (by omega) (by omega) (by omega) s323 s324 s325 s326 s327 s328 s329 s330 pr331 lp12k9 lp12k10 hrw333 hrw334) (gLw.s (gLw.s gLw.z))
                  · refine gy_ifF rfl (by decide) (by decide) (by omega) hc320 ?_
                    have hwb335 : ewB (ecK iv fr tt hg lw cf w0 w1 (b).toNat).2.2 50000 := (ewB.of hywb1 (ecK_cnt (n := 257) (by omega) (by omega) (b).toNat).2 (by omega))
                    refine gy_s 4 (pc' := 86) (L' := [some (.ref x), some (.int (zi b))]) (S' := [.int ((zi b) * (zi 64)), .ref x]) (L2 := [some (.ref x), some (.int (zi b))]) (S2 := [.int (zi (b * 64)), .ref x]) rfl (by simp only [zi_add, zi_sub, zi_mul, zi_neg, zi_and1, zi_and7, zi_and15, zi_and31, zi_and255]) (by simp only [zi_add, zi_sub, zi_mul, zi_neg, zi_and1, zi_and7, zi_and15, zi_and31, zi_and255]) ?_
                    refine gz_call rfl (by decide) rfl (by decide) (by decide) (gcal_of rfl rfl rfl (Nat.le_of_ble_eq_true rfl) (gJ.recv (G := gGG) sq307.1 tx rfl rfl)) (cn_refineOthers _ sq307.1 x tx (b * 64) ⟨by omega, by omega⟩ cg s308 ⟨by omega, by omega⟩ fr s309 ⟨by omega, by omega⟩ tt s310 ⟨by omega, by omega⟩ lw s312 ⟨by omega, by omega⟩ bs s313 ⟨by omega, by omega⟩ ((ecK iv fr tt hg lw cf w0 w1 (b).toNat).2.2) cf (by omega) (by omega) uq pr316 hwb335 pr315) (fun q336 _ wq336 => ?_)
                    obtain ⟨pq336, oq336, hq336⟩ := q336
                    obtain ⟨xq336, gq336, yq336_0⟩ := wq336
                    refine ⟨_, gq336, ?_⟩
                    show gz gPP gGG gcn _ _ 89 [some (.ref x), some (.int (zi b))] [] hq336 _
                    have sq336 : gSs rT 1027 ty [71012, 71013, 71014, 80999, 97999] h hq336 := gSs.tr sq307 xq336 (by decide)
                    have s337 := (xq336.2.2.2.2.2 x 11 (by rw [tx]; decide)).trans s308
                    have s338 := (xq336.2.2.2.2.2 x 7 (by rw [tx]; decide)).trans s309
                    have s339 := (xq336.2.2.2.2.2 x 8 (by rw [tx]; decide)).trans s310
                    have s340 := (xq336.2.2.2.2.2 x 9 (by rw [tx]; decide)).trans s311
                    have s341 := (xq336.2.2.2.2.2 x 10 (by rw [tx]; decide)).trans s312
                    have s342 := (xq336.2.2.2.2.2 x 5 (by rw [tx]; decide)).trans s313
                    have s343 := (xq336.2.2.2.2.2 x 6 (by rw [tx]; decide)).trans s314
                    have s344 := (xq336.2.2.2.2.2 x 12 (by rw [tx]; decide)).trans efq307_0
                    have pr345 := gRn.fr xq336.2 (by decide) pr315
                    have pr346 := gRn.fr xq336.2 (by decide) yq307_0
                    refine gz_s 1 (pc' := 107) (L' := [some (.ref x), some (.int (zi b))]) (S' := []) rfl ?_
                    have hK : ecK iv fr tt hg lw cf w0 w1 (b + 1).toNat = ((eeFi ecS ecP lw hg (cf ((b * 64)).toNat) 0 ((ecK iv fr tt hg lw cf w0 w1 (b).toNat).2.1)).1, (eeFi ecS ecP lw hg (cf ((b * 64)).toNat) 0 ((ecK iv fr tt hg lw cf w0 w1 (b).toNat).2.1)).2, eeRz ecS ecP lw cf (b * 64) fr tt ((ecK iv fr tt hg lw cf w0 w1 (b).toNat).2.2)) := by
                      rw [hbn]
                      exact ecK_s (bf := 0) (ecI_y (by omega) (by omega) (by first | assumption | exact Decidable.not_not.mp (by assumption))) (ite2_1 (by omega) (by rw [hi0])) (ite3_1 ⟨by omega, by omega⟩ (by unfold eeRz; rw [hi1]))
                    have hK1 : (ecK iv fr tt hg lw cf w0 w1 (b + 1).toNat).1 = (eeFi ecS ecP lw hg (cf ((b * 64)).toNat) 0 ((ecK iv fr tt hg lw cf w0 w1 (b).toNat).2.1)).1 := by rw [hK]
                    have hrw347 : gRn 257 ty 97 ((ecK iv fr tt hg lw cf w0 w1 (b + 1).toNat).2.1) hq336 := by rw [hK]; exact pr346
                    have hrw348 : gRn 257 ty 80 ((ecK iv fr tt hg lw cf w0 w1 (b + 1).toNat).2.2) hq336 := by rw [hK]; exact yq336_0
                    refine gy_s 2 (pc' := 7) (L' := [some (.ref x), some (.int ((zi b) + zi 1))]) (S' := []) (L2 := [some (.ref x), some (.int (zi (b + 1)))]) (S2 := []) rfl (by simp only [zi_add, zi_sub, zi_mul, zi_neg, zi_and1, zi_and7, zi_and15, zi_and31, zi_and255]) (by simp only [zi_add, zi_sub, zi_mul, zi_neg, zi_and1, zi_and7, zi_and15, zi_and31, zi_and255]) ?_
                    exact gz_wk (ihlp12 hq336 (b + 1) fq307_0 (by omega) sq336 (by omega) (by omega) (by omega) (by omega) s337 s338 s339 s340 s341 s342 s343 s344 pr345 lp12k9 lp12k10 hrw347 hrw348) (gLw.s (gLw.s gLw.z))
  have hK0 : (ecK iv fr tt hg lw cf w0 w1 (0 : Int).toNat).1 = 0 := rfl
  exact gz_wk (lp12 _ h1 0 0 (Nat.lt_succ_self _) sh1 (by omega) (by omega) (by omega) (by omega) s5 s6 s7 s8 s9 s10 s11 eh1 pr2 hywb0 hywb1 (show gRn 257 ty 97 (ecK iv fr tt hg lw cf w0 w1 (0 : Int).toNat).2.1 h1 from pr3) (show gRn 257 ty 80 (ecK iv fr tt hg lw cf w0 w1 (0 : Int).toNat).2.2 h1 from pr4)) (gLw.s (gLw.s gLw.z))
