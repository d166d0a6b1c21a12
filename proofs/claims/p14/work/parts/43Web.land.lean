/-! ===== methods of the landed text (by program) ===== -/
set_option maxRecDepth 20000 in
set_option maxHeartbeats 4000000 in
theorem cw_putBlocks (d : Nat) {ty : Nat → Nat} {h : gH} (hJ : gJ rT 1027 ty h) (x : Nat) (tx : ty x = 71) (sk : Nat) (esk : h.2.2.2.2 x 0 = .ref sk) (tsk : ty sk = 56) (bt : Nat) (ebt : h.2.2.2.2 sk 0 = .ref bt) (tbt : ty bt = 114) (c0 : Int) (ec0 : h.2.2.2.2 sk 1 = .int (zi c0)) (rc0 : 0 ≤ c0 ∧ c0 ≤ 499999) (u0 : Int) (eu0 : h.2.2.2.2 sk 2 = .int (zi u0)) (ru0 : 0 ≤ u0 ∧ u0 ≤ 127) (h0 : Int) (eh0 : h.2.2.2.2 sk 3 = .int (zi h0)) (rh0 : 0 ≤ h0 ∧ h0 ≤ 7) (cg : Int) (ecg : h.2.2.2.2 x 11 = .int (zi cg)) (rcg : 0 ≤ cg ∧ cg ≤ 0) (fr : Int) (efr : h.2.2.2.2 x 7 = .int (zi fr)) (rfr : 0 ≤ fr ∧ fr ≤ 63) (tt : Int) (ett : h.2.2.2.2 x 8 = .int (zi tt)) (rtt : 0 ≤ tt ∧ tt ≤ 63) (hg : Int) (ehg : h.2.2.2.2 x 9 = .int (zi hg)) (rhg : 0 ≤ hg ∧ hg ≤ 4) (lw : Int) (elw : h.2.2.2.2 x 10 = .int (zi lw)) (rlw : 0 ≤ lw ∧ lw ≤ 3) (bs : Int) (ebs : h.2.2.2.2 x 5 = .int (zi bs)) (rbs : 0 ≤ bs ∧ bs ≤ 16) (iv : Int) (eiv : h.2.2.2.2 x 6 = .int (zi iv)) (riv : 0 ≤ iv ∧ iv ≤ 100) (cf : Nat → Int) (sg : gWt) (ec96 : Nat → Int × Int) (ec79 : Nat → Int × Int) (pp0 : c0 = sg.1) (pp1 : u0 = sg.2.1) (pp2 : h0 = sg.2.2.1) (pp3 : 4 * c0 + h0 + 16 * (656 + 320 * (tt - fr)) + 2000 ≤ 1999990) (pp4 : fr ≤ tt) (pp5 : fr = 0 → (tt = 0 ∨ hg = 0)) (pp6 : c0 ≤ (h.2.2.2.1 bt : Int)) (uq : gUq ty) (hysw : gSW ty bt sg h) (hyok : eeOk sg) (hyf73 : gRn (64 * bs).toNat ty 73 cf h) (hytb96 : gTab (fr = 0 ∧ hg = 0) ty 95 96 ec96 h) (hytb79 : gTab (0 < tt) ty 78 79 ec79 h) : gz gPP gGG gcn (d + 6) gt106 0 (gent [.ref x] 2) [] h (fun q _ => ∃ ty9 : Nat → Nat, gSg [114] [] [56000, 56001, 56002, 56003, 71012, 71013, 71014, 114999] ty h ty9 q.2.2 ∧ ∃ bt2 : Nat, True ∧ ∃ c1 u1 h1 : Int, q.2.2.2.2.2.2 sk 0 = .ref bt2 ∧ ty9 bt2 = 114 ∧ gfin gt106 q.1 q.2.1 = some none ∧ q.2.2.2.2.2.2 sk 1 = .int (zi c1) ∧ 0 ≤ c1 ∧ c1 ≤ 500000 ∧ q.2.2.2.2.2.2 sk 2 = .int (zi u1) ∧ 0 ≤ u1 ∧ u1 ≤ 127 ∧ q.2.2.2.2.2.2 sk 3 = .int (zi h1) ∧ 0 ≤ h1 ∧ h1 ≤ 7 ∧ (c1 = ((ewK ec96 ec79 iv fr tt hg lw cf sg (bs).toNat).2).1) ∧ (u1 = ((ewK ec96 ec79 iv fr tt hg lw cf sg (bs).toNat).2).2.1) ∧ (h1 = ((ewK ec96 ec79 iv fr tt hg lw cf sg (bs).toNat).2).2.2.1) ∧ (4 * c1 + h1 ≤ 4 * c0 + h0 + 16 * (656 + 320 * (tt - fr))) ∧ (c0 ≤ c1) ∧ (1024 * ((q.2.2.1 : Int) - h.1) ≤ (q.2.2.2.2.2.1 bt2 : Int) - h.2.2.2.1 bt) ∧ (((q.2.2.2.1 : Int) - h.2.1) ≤ 2 * ((q.2.2.2.2.2.1 bt2 : Int) - h.2.2.2.1 bt)) ∧ ((h.2.2.2.1 bt : Int) ≤ (q.2.2.2.2.2.1 bt2 : Int)) ∧ (c1 ≤ (q.2.2.2.2.2.1 bt2 : Int)) ∧ (gSW ty9 bt2 ((ewK ec96 ec79 iv fr tt hg lw cf sg (bs).toNat).2) q.2.2) ∧ (eeOk ((ewK ec96 ec79 iv fr tt hg lw cf sg (bs).toNat).2))) := by
  have hS : gSs rT 1027 ty [56000, 56001, 56002, 56003, 71012, 71013, 71014, 114999] h h := gSs.rf hJ
  have G0 : gSg [114] [] [56000, 56001, 56002, 56003, 71012, 71013, 71014, 114999] ty h ty h := gSg.rf hJ (fun x hx => by cases hx)
  refine gz_s 2 (pc' := 2) (L' := [some (.ref x), none]) (S' := [.int (zi 0), .ref x]) rfl ?_
  refine gs_put rfl (by decide) rfl hS tx rfl rfl rfl rfl (Or.inl rfl) (by decide) (by omega) (by omega) (fun h1 sh1 eh1 fh1 => ?_)
  have pr2 := gSW.pt fh1 tx (by decide) hysw
  have pr3 := gRn.pt fh1 tx (by decide) hyf73
  have pr4 := gTab.pt fh1 tx (by decide) (by decide) hytb96
  have pr5 := gTab.pt fh1 tx (by decide) (by decide) hytb79
  have s6 := (fh1 x 0 (fun q => absurd q.2 (by decide))).trans esk
  have s7 := (fh1 sk 0 (fun q => absurd q.2 (by decide))).trans ebt
  have s8 := (fh1 sk 1 (fun q => absurd q.2 (by decide))).trans ec0
  have s9 := (fh1 sk 2 (fun q => absurd q.2 (by decide))).trans eu0
  have s10 := (fh1 sk 3 (fun q => absurd q.2 (by decide))).trans eh0
  have s11 := (fh1 x 11 (fun q => absurd q.2 (by decide))).trans ecg
  have s12 := (fh1 x 7 (fun q => absurd q.2 (by decide))).trans efr
  have s13 := (fh1 x 8 (fun q => absurd q.2 (by decide))).trans ett
  have s14 := (fh1 x 9 (fun q => absurd q.2 (by decide))).trans ehg
  have s15 := (fh1 x 10 (fun q => absurd q.2 (by decide))).trans elw
  have s16 := (fh1 x 5 (fun q => absurd q.2 (by decide))).trans ebs
  have s17 := (fh1 x 6 (fun q => absurd q.2 (by decide))).trans eiv
  refine gz_s 2 (pc' := 7) (L' := [some (.ref x), some (.int (zi 0))]) (S' := []) rfl ?_
  have hk19 : (ewK ec96 ec79 iv fr tt hg lw cf sg (0 : Int).toNat).2 = sg := rfl
  have hk19_1 : ((ewK ec96 ec79 iv fr tt hg lw cf sg (0 : Int).toNat).2).1 = (sg).1 := by rw [hk19]
  have hk19_21 : ((ewK ec96 ec79 iv fr tt hg lw cf sg (0 : Int).toNat).2).2.1 = (sg).2.1 := by rw [hk19]
  have hk19_221 : ((ewK ec96 ec79 iv fr tt hg lw cf sg (0 : Int).toNat).2).2.2.1 = (sg).2.2.1 := by rw [hk19]
  have hsw20 : gSW ty bt ((ewK ec96 ec79 iv fr tt hg lw cf sg (0 : Int).toNat).2) h1 := by rw [hk19]; exact pr2
  have hok21 : eeOk ((ewK ec96 ec79 iv fr tt hg lw cf sg (0 : Int).toNat).2) := by rw [hk19]; exact hyok
  have hoc22 := hok21.cur
  have lp18 : ∀ (fu : Nat) (ty24 : Nat → Nat) (h23 : gH) (bv : Nat) (b : Int) (cv : Int) (uv : Int) (hv : Int) (bv9 : Int), (17 - b).toNat < fu → gSg [114] [] [56000, 56001, 56002, 56003, 71012, 71013, 71014, 114999] ty h ty24 h23 → gUq ty24 → ty24 x = 71 → ty24 sk = 56 → h23.2.2.2.2 sk 0 = .ref bv → ty24 bv = 114 → (0 ≤ b ∧ b ≤ 16) → (0 ≤ cv ∧ cv ≤ 499999) → (0 ≤ uv ∧ uv ≤ 127) → (0 ≤ hv ∧ hv ≤ 7) → ((-2048) ≤ bv9 ∧ bv9 ≤ 2048) → (b ≤ bs) → (bv9 = (ewK ec96 ec79 iv fr tt hg lw cf sg (b).toNat).1) → (cv = ((ewK ec96 ec79 iv fr tt hg lw cf sg (b).toNat).2).1) → (uv = ((ewK ec96 ec79 iv fr tt hg lw cf sg (b).toNat).2).2.1) → (hv = ((ewK ec96 ec79 iv fr tt hg lw cf sg (b).toNat).2).2.2.1) → (4 * cv + hv ≤ 4 * c0 + h0 + b * (656 + 320 * (tt - fr))) → (c0 ≤ cv) → (1024 * ((h23.1 : Int) - h.1) ≤ (h23.2.2.2.1 bv : Int) - h.2.2.2.1 bt) → (((h23.2.1 : Int) - h.2.1) ≤ 2 * ((h23.2.2.2.1 bv : Int) - h.2.2.2.1 bt)) → ((h.2.2.2.1 bt : Int) ≤ (h23.2.2.2.1 bv : Int)) → (cv ≤ (h23.2.2.2.1 bv : Int)) → h23.2.2.2.2 x 0 = .ref sk → h23.2.2.2.2 x 11 = .int (zi cg) → h23.2.2.2.2 x 7 = .int (zi fr) → h23.2.2.2.2 x 8 = .int (zi tt) → h23.2.2.2.2 x 9 = .int (zi hg) → h23.2.2.2.2 x 10 = .int (zi lw) → h23.2.2.2.2 x 5 = .int (zi bs) → h23.2.2.2.2 x 6 = .int (zi iv) → h23.2.2.2.2 sk 1 = .int (zi cv) → h23.2.2.2.2 sk 2 = .int (zi uv) → h23.2.2.2.2 sk 3 = .int (zi hv) → h23.2.2.2.2 x 12 = .int (zi bv9) → gRn (64 * bs).toNat ty24 73 cf h23 → gTab (fr = 0 ∧ hg = 0) ty24 95 96 ec96 h23 → gTab (0 < tt) ty24 78 79 ec79 h23 → gSW ty24 bv ((ewK ec96 ec79 iv fr tt hg lw cf sg (b).toNat).2) h23 → eeOk ((ewK ec96 ec79 iv fr tt hg lw cf sg (b).toNat).2) → gz gPP gGG gcn (d + 6) gt106 7 [some (.ref x), some (.int (zi b))] [] h23 (fun q _ => ∃ ty9 : Nat → Nat, gSg [114] [] [56000, 56001, 56002, 56003, 71012, 71013, 71014, 114999] ty h ty9 q.2.2 ∧ ∃ bt2 : Nat, True ∧ ∃ c1 u1 h1 : Int, q.2.2.2.2.2.2 sk 0 = .ref bt2 ∧ ty9 bt2 = 114 ∧ gfin gt106 q.1 q.2.1 = some none ∧ q.2.2.2.2.2.2 sk 1 = .int (zi c1) ∧ 0 ≤ c1 ∧ c1 ≤ 500000 ∧ q.2.2.2.2.2.2 sk 2 = .int (zi u1) ∧ 0 ≤ u1 ∧ u1 ≤ 127 ∧ q.2.2.2.2.2.2 sk 3 = .int (zi h1) ∧ 0 ≤ h1 ∧ h1 ≤ 7 ∧ (c1 = ((ewK ec96 ec79 iv fr tt hg lw cf sg (bs).toNat).2).1) ∧ (u1 = ((ewK ec96 ec79 iv fr tt hg lw cf sg (bs).toNat).2).2.1) ∧ (h1 = ((ewK ec96 ec79 iv fr tt hg lw cf sg (bs).toNat).2).2.2.1) ∧ (4 * c1 + h1 ≤ 4 * c0 + h0 + 16 * (656 + 320 * (tt - fr))) ∧ (c0 ≤ c1) ∧ (1024 * ((q.2.2.1 : Int) - h.1) ≤ (q.2.2.2.2.2.1 bt2 : Int) - h.2.2.2.1 bt) ∧ (((q.2.2.2.1 : Int) - h.2.1) ≤ 2 * ((q.2.2.2.2.2.1 bt2 : Int) - h.2.2.2.1 bt)) ∧ ((h.2.2.2.1 bt : Int) ≤ (q.2.2.2.2.2.1 bt2 : Int)) ∧ (c1 ≤ (q.2.2.2.2.2.1 bt2 : Int)) ∧ (gSW ty9 bt2 ((ewK ec96 ec79 iv fr tt hg lw cf sg (bs).toNat).2) q.2.2) ∧ (eeOk ((ewK ec96 ec79 iv fr tt hg lw cf sg (bs).toNat).2))) := by
    intro fu
    induction fu with
    | zero => intro ty24 h23 bv b cv uv hv bv9 hm; exact absurd hm (Nat.not_lt_zero _)
    | succ fu ihlp18 =>
      intro ty24 h23 bv b cv uv hv bv9 lp18m lp18G lp18u lp18c0 lp18c1 lp18r0 lp18r1 lp18f0 lp18f1 lp18f2 lp18f3 lp18f4 lp18f5 lp18f6 lp18f7 lp18f8 lp18f9 lp18f10 lp18f11 lp18f12 lp18f13 lp18f14 lp18f15 lp18k0 lp18k1 lp18k2 lp18k3 lp18k4 lp18k5 lp18k6 lp18k7 lp18k8 lp18k9 lp18k10 lp18k11 lp18k12 lp18k13 lp18k14 lp18k15 lp18k16
      have sh23 : gSs rT 1027 ty24 [56000, 56001, 56002, 56003, 71012, 71013, 71014, 114999] h23 h23 := gSs.rf lp18G.1
      have hx1 : (b + 1) * (656 + 320 * (tt - fr)) = b * (656 + 320 * (tt - fr)) + (656 + 320 * (tt - fr)) := by rw [Int.add_mul, Int.one_mul]
      have hx2 : b * (656 + 320 * (tt - fr)) ≤ 16 * (656 + 320 * (tt - fr)) := Int.mul_le_mul_of_nonneg_right (by omega) (by omega)
      have hx3 : b < bs → (b + 1) * (656 + 320 * (tt - fr)) ≤ 16 * (656 + 320 * (tt - fr)) := fun _ => Int.mul_le_mul_of_nonneg_right (by omega) (by omega)
      refine gz_s 2 (pc' := 9) (L' := [some (.ref x), some (.int (zi b))]) (S' := [.ref x, .int (zi b)]) rfl ?_
      refine gs_gtk rfl (by decide) rfl sh23.1 lp18c0 rfl rfl lp18k6 ?_
      by_cases hc25 : (bs : Int) ≤ b
      · refine gy_icT (pc' := 113) rfl (by decide) (by decide) (by omega) (by omega) hc25 ?_
        have hk26 : (ewK ec96 ec79 iv fr tt hg lw cf sg (bs).toNat).2 = (ewK ec96 ec79 iv fr tt hg lw cf sg (b).toNat).2 := by rw [show bs = b by omega]
        have hk26_1 : ((ewK ec96 ec79 iv fr tt hg lw cf sg (bs).toNat).2).1 = ((ewK ec96 ec79 iv fr tt hg lw cf sg (b).toNat).2).1 := by rw [hk26]
        have hk26_21 : ((ewK ec96 ec79 iv fr tt hg lw cf sg (bs).toNat).2).2.1 = ((ewK ec96 ec79 iv fr tt hg lw cf sg (b).toNat).2).2.1 := by rw [hk26]
        have hk26_221 : ((ewK ec96 ec79 iv fr tt hg lw cf sg (bs).toNat).2).2.2.1 = ((ewK ec96 ec79 iv fr tt hg lw cf sg (b).toNat).2).2.2.1 := by rw [hk26]
        have hsw27 : gSW ty24 bv ((ewK ec96 ec79 iv fr tt hg lw cf sg (bs).toNat).2) h23 := by rw [hk26]; exact lp18k15
        have hok28 : eeOk ((ewK ec96 ec79 iv fr tt hg lw cf sg (bs).toNat).2) := by rw [hk26]; exact lp18k16
        have hoc29 := hok28.cur
        have hl30 : 1024 ≤ h23.2.2.2.1 bv ∧ h23.2.2.2.1 bv ≤ 1000000 := gJ.rowl (G := gGG) sh23.1 lp18r1 rfl
        have G31 : gSg [114] [] [56000, 56001, 56002, 56003, 71012, 71013, 71014, 114999] ty h ty24 h23 := gSg.ss lp18G sh23 (by decide)
        exact gz_end (I := .return_) (len := 1) rfl (Or.inl rfl) ⟨ty24, G31, bv, trivial, cv, uv, hv, lp18r0, lp18r1, rfl, lp18k8, (by omega), (by omega), lp18k9, (by omega), (by omega), lp18k10, (by omega), (by omega), (by omega), (by omega), (by omega), (by omega), (by omega), (by dsimp only; omega), (by dsimp only; omega), (by dsimp only; omega), (by dsimp only; omega), hsw27, hok28⟩
      · refine gy_icF rfl (by decide) (by decide) (by omega) (by omega) hc25 ?_
        have hi0 : (b * 64).toNat = 64 * (b).toNat := by omega
        have hi1 : ((b * 64) + fr).toNat = 64 * (b).toNat + fr.toNat := by omega
        have hi2 : ((b * 64) + (if 1 ≤ fr then fr else 1)).toNat = 64 * (b).toNat + ((if 1 ≤ fr then fr else 1)).toNat := by omega
        have hbn : (b + 1).toNat = (b).toNat + 1 := by omega
        refine gz_s 1 (pc' := 16) (L' := [some (.ref x), some (.int (zi b))]) (S' := [.ref x]) rfl ?_
        refine gs_gtk rfl (by decide) rfl sh23.1 lp18c0 rfl rfl lp18k7 ?_
        by_cases hc32 : (iv : Int) ≤ 0
        · refine gy_ifT (pc' := 52) rfl (by decide) (by decide) (by omega) hc32 ?_
          refine gz_s 1 (pc' := 53) (L' := [some (.ref x), some (.int (zi b))]) (S' := [.ref x]) rfl ?_
          refine gs_gtk rfl (by decide) rfl sh23.1 lp18c0 rfl rfl lp18k2 ?_
          by_cases hc33 : ¬ (fr : Int) = 0
          · refine gy_ifT (pc' := 67) rfl (by decide) (by decide) (by omega) hc33 ?_
            refine gz_s 1 (pc' := 68) (L' := [some (.ref x), some (.int (zi b))]) (S' := [.ref x]) rfl ?_
            refine gs_gtk rfl (by decide) rfl sh23.1 lp18c0 rfl rfl lp18k3 ?_
            by_cases hc34 : (tt : Int) ≤ 0
            · refine gy_ifT (pc' := 92) rfl (by decide) (by decide) (by omega) hc34 ?_
              refine gz_s 1 (pc' := 93) (L' := [some (.ref x), some (.int (zi b))]) (S' := [.ref x]) rfl ?_
              refine gs_gtk rfl (by decide) rfl sh23.1 lp18c0 rfl rfl lp18k3 ?_
              refine gy_ifT (pc' := 107) rfl (by decide) (by decide) ⟨by omega, by omega⟩ (by first | (simp [zc]; done) | (simp only [zc]; omega)) ?_
              have hK : ewK ec96 ec79 iv fr tt hg lw cf sg (b + 1).toNat = ((bv9, (ewK ec96 ec79 iv fr tt hg lw cf sg (b).toNat).2).1, (ewK ec96 ec79 iv fr tt hg lw cf sg (b).toNat).2) := by
                rw [hbn]
                exact ewK_s (P := (bv9, (ewK ec96 ec79 iv fr tt hg lw cf sg (b).toNat).2)) (F := (bv9, (ewK ec96 ec79 iv fr tt hg lw cf sg (b).toNat).2)) ((ewI_n (by omega) (by intro w; rcases w with ⟨w1, w2, w3⟩; first | omega | exact absurd w3 (by assumption))).trans (by rw [show bv9 = (ewK ec96 ec79 iv fr tt hg lw cf sg (b).toNat).1 by omega])) (ite2_2 (by omega) rfl) (ite3_3 (by omega) (by omega) rfl)
              have hK1 : (ewK ec96 ec79 iv fr tt hg lw cf sg (b + 1).toNat).1 = (bv9, (ewK ec96 ec79 iv fr tt hg lw cf sg (b).toNat).2).1 := by rw [hK]
              have hK2 : (bv9, (ewK ec96 ec79 iv fr tt hg lw cf sg (b).toNat).2).1 = bv9 := rfl
              have hk35 : (ewK ec96 ec79 iv fr tt hg lw cf sg (b + 1).toNat).2 = (ewK ec96 ec79 iv fr tt hg lw cf sg (b).toNat).2 := by rw [hK]
              have hk35_1 : ((ewK ec96 ec79 iv fr tt hg lw cf sg (b + 1).toNat).2).1 = ((ewK ec96 ec79 iv fr tt hg lw cf sg (b).toNat).2).1 := by rw [hk35]
              have hk35_21 : ((ewK ec96 ec79 iv fr tt hg lw cf sg (b + 1).toNat).2).2.1 = ((ewK ec96 ec79 iv fr tt hg lw cf sg (b).toNat).2).2.1 := by rw [hk35]
              have hk35_221 : ((ewK ec96 ec79 iv fr tt hg lw cf sg (b + 1).toNat).2).2.2.1 = ((ewK ec96 ec79 iv fr tt hg lw cf sg (b).toNat).2).2.2.1 := by rw [hk35]
              have hsw36 : gSW ty24 bv ((ewK ec96 ec79 iv fr tt hg lw cf sg (b + 1).toNat).2) h23 := by rw [hk35]; exact lp18k15
              have hok37 : eeOk ((ewK ec96 ec79 iv fr tt hg lw cf sg (b + 1).toNat).2) := by rw [hk35]; exact lp18k16
              have hoc38 := hok37.cur
              refine gy_s 2 (pc' := 7) (L' := [some (.ref x), some (.int ((zi b) + zi 1))]) (S' := []) (L2 := [some (.ref x), some (.int (zi (b + 1)))]) (S2 := []) rfl (by simp only [zi_add, zi_sub, zi_mul, zi_neg, zi_and1, zi_and7, zi_and15, zi_and31, zi_and255]) (by simp only [zi_add, zi_sub, zi_mul, zi_neg, zi_and1, zi_and7, zi_and15, zi_and31, zi_and255]) ?_
              have hl39 : 1024 ≤ h23.2.2.2.1 bv ∧ h23.2.2.2.1 bv ≤ 1000000 := gJ.rowl (G := gGG) sh23.1 lp18r1 rfl
              have G40 : gSg [114] [] [56000, 56001, 56002, 56003, 71012, 71013, 71014, 114999] ty h ty24 h23 := gSg.ss lp18G sh23 (by decide)
              exact gz_wk (ihlp18 ty24 h23 bv (b + 1) cv uv hv bv9 (gms lp18m (by omega) (by omega)) G40 lp18u lp18c0 lp18c1 lp18r0 lp18r1 ⟨by omega, by omega⟩ ⟨by omega, by omega⟩ ⟨by omega, by omega⟩ ⟨by omega, by omega⟩ ⟨by omega, by omega⟩ (by omega) (by omega) (by omega) (by omega) (by omega) (by omega) (by omega) (by omega) (by omega) (by omega) (by omega) lp18k0 lp18k1 lp18k2 lp18k3 lp18k4 lp18k5 lp18k6 lp18k7 lp18k8 lp18k9 lp18k10 lp18k11 lp18k12 lp18k13 lp18k14 hsw36 hok37) (gLw.s (gLw.s gLw.z))
            · refine gy_ifF rfl (by decide) (by decide) (by omega) hc34 ?_
              refine gz_s 1 (pc' := 75) (L' := [some (.ref x), some (.int (zi b))]) (S' := [.ref x]) rfl ?_
              refine gs_gtk rfl (by decide) rfl sh23.1 lp18c0 rfl rfl lp18k4 ?_
              by_cases hc41 : (hg : Int) ≤ 0
              · refine gy_ifT (pc' := 92) rfl (by decide) (by decide) (by omega) hc41 ?_
                refine gz_s 1 (pc' := 93) (L' := [some (.ref x), some (.int (zi b))]) (S' := [.ref x]) rfl ?_
                refine gs_gtk rfl (by decide) rfl sh23.1 lp18c0 rfl rfl lp18k3 ?_
                refine gy_ifF rfl (by decide) (by decide) ⟨by omega, by omega⟩ (by first | (simp [zc]; done) | (simp only [zc]; omega)) ?_
                have htb42 := gTab.imp (Q := True) (fun _ => by omega) lp18k14
                refine gy_s 4 (pc' := 104) (L' := [some (.ref x), some (.int (zi b))]) (S' := [.int ((zi b) * (zi 64)), .ref x]) (L2 := [some (.ref x), some (.int (zi b))]) (S2 := [.int (zi (b * 64)), .ref x]) rfl (by simp only [zi_add, zi_sub, zi_mul, zi_neg, zi_and1, zi_and7, zi_and15, zi_and31, zi_and255]) (by simp only [zi_add, zi_sub, zi_mul, zi_neg, zi_and1, zi_and7, zi_and15, zi_and31, zi_and255]) ?_
                have hl43 : h23.2.2.2.1 bv = h23.2.2.2.1 bv := congrFun sh23.2.2.2.2.1 bv
                refine gz_call rfl (by decide) rfl (by decide) (by decide) (gcal_of rfl rfl rfl (Nat.le_of_ble_eq_true rfl) (gJ.recv (G := gGG) sh23.1 lp18c0 rfl rfl)) (cw_putOthers _ sh23.1 x lp18c0 (b * 64) ⟨by omega, by omega⟩ sk lp18k0 lp18c1 bv lp18r0 lp18r1 cv lp18k8 ⟨by omega, by omega⟩ uv lp18k9 ⟨by omega, by omega⟩ hv lp18k10 ⟨by omega, by omega⟩ cg lp18k1 ⟨by omega, by omega⟩ fr lp18k2 ⟨by omega, by omega⟩ tt lp18k3 ⟨by omega, by omega⟩ lw lp18k5 ⟨by omega, by omega⟩ bs lp18k6 ⟨by omega, by omega⟩ cf ((ewK ec96 ec79 iv fr tt hg lw cf sg (b).toNat).2) ec79 (by omega) (by omega) (by omega) (by omega) (by omega) (by omega) (by omega) (by omega) lp18u lp18k15 lp18k16 htb42 lp18k12) (fun q44 _ wq44 => ?_)
                obtain ⟨pq44, oq44, hq44⟩ := q44
                obtain ⟨tyq44, xq44, cq44_0, ttq44, fq44_0, fq44_1, fq44_2, ecq44_0, tcq44_0, gq44, efq44_0, afq44_0, bfq44_0, efq44_1, afq44_1, bfq44_1, efq44_2, afq44_2, bfq44_2, uq44_0, uq44_1, uq44_2, uq44_3, uq44_4, uq44_5, uq44_6, uq44_7, uq44_8, yq44_0, yq44_1⟩ := wq44
                dsimp only at uq44_5 uq44_6 uq44_7 uq44_8
                refine ⟨_, gq44, ?_⟩
                show gz gPP gGG gcn _ _ 107 [some (.ref x), some (.int (zi b))] [] hq44 _
                have G45 : gSg [114] [] [56000, 56001, 56002, 56003, 71012, 71013, 71014, 114999] ty h tyq44 hq44 := gSg.tr (gSg.ss lp18G sh23 (by decide)) xq44 (by decide) (by decide) (fun x hx => by cases hx)
                have t46 : tyq44 x = 71 := gSg.typ xq44 sh23.1 lp18c0 rfl
                have t47 : tyq44 sk = 56 := gSg.typ xq44 sh23.1 lp18c1 rfl
                have t48 : tyq44 bv = 114 := gSg.typ xq44 sh23.1 lp18r1 rfl
                have hl49 : hq44.2.2.2.1 bv = h23.2.2.2.1 bv := gSg.len xq44 sh23.1 lp18r1 rfl
                have s50 := gSg.at xq44 sh23.1 lp18c0 rfl (by decide) lp18k0
                have s51 := gSg.at xq44 sh23.1 lp18c0 rfl (by decide) lp18k1
                have s52 := gSg.at xq44 sh23.1 lp18c0 rfl (by decide) lp18k2
                have s53 := gSg.at xq44 sh23.1 lp18c0 rfl (by decide) lp18k3
                have s54 := gSg.at xq44 sh23.1 lp18c0 rfl (by decide) lp18k4
                have s55 := gSg.at xq44 sh23.1 lp18c0 rfl (by decide) lp18k5
                have s56 := gSg.at xq44 sh23.1 lp18c0 rfl (by decide) lp18k6
                have s57 := gSg.at xq44 sh23.1 lp18c0 rfl (by decide) lp18k7
                have s58 := gSg.at xq44 sh23.1 lp18c0 rfl (by decide) lp18k11
                have pr59 := gRn.gr xq44 sh23.1 rfl (by decide) (by decide) lp18k12
                have pr60 := gTab.gr xq44 sh23.1 rfl rfl (fun _ => rfl) (fun _ => rfl) (by decide) (by decide) (by decide) (by decide) lp18k13
                have pr61 := gTab.gr xq44 sh23.1 rfl rfl (fun _ => rfl) (fun _ => rfl) (by decide) (by decide) (by decide) (by decide) htb42
                have uq62 := gSg.uq xq44 lp18u (by decide)
                have sS63 : gSs rT 1027 tyq44 [56000, 56001, 56002, 56003, 71012, 71013, 71014, 114999] hq44 hq44 := gSs.rf xq44.1
                have htb64 := gTab.imp (Q := 0 < tt) (fun _ => trivial) pr61
                have hK : ewK ec96 ec79 iv fr tt hg lw cf sg (b + 1).toNat = ((bv9, (ewK ec96 ec79 iv fr tt hg lw cf sg (b).toNat).2).1, eeOt (ewS ec79) eeN lw cf ((b * 64) + (if 1 ≤ fr then fr else 1)).toNat (tt - (if 1 ≤ fr then fr else 1) + 1).toNat ((ewK ec96 ec79 iv fr tt hg lw cf sg (b).toNat).2)) := by
                  rw [hbn]
                  exact ewK_s (P := (bv9, (ewK ec96 ec79 iv fr tt hg lw cf sg (b).toNat).2)) (F := (bv9, (ewK ec96 ec79 iv fr tt hg lw cf sg (b).toNat).2)) ((ewI_n (by omega) (by intro w; rcases w with ⟨w1, w2, w3⟩; first | omega | exact absurd w3 (by assumption))).trans (by rw [show bv9 = (ewK ec96 ec79 iv fr tt hg lw cf sg (b).toNat).1 by omega])) (ite2_2 (by omega) rfl) (ite3_2 (by omega) (by omega) (by rw [hi2]))
                have hK1 : (ewK ec96 ec79 iv fr tt hg lw cf sg (b + 1).toNat).1 = (bv9, (ewK ec96 ec79 iv fr tt hg lw cf sg (b).toNat).2).1 := by rw [hK]
                have hK2 : (bv9, (ewK ec96 ec79 iv fr tt hg lw cf sg (b).toNat).2).1 = bv9 := rfl
                have hk65 : (ewK ec96 ec79 iv fr tt hg lw cf sg (b + 1).toNat).2 = eeOt (ewS ec79) eeN lw cf ((b * 64) + (if 1 ≤ fr then fr else 1)).toNat (tt - (if 1 ≤ fr then fr else 1) + 1).toNat ((ewK ec96 ec79 iv fr tt hg lw cf sg (b).toNat).2) := by rw [hK]
                have hk65_1 : ((ewK ec96 ec79 iv fr tt hg lw cf sg (b + 1).toNat).2).1 = (eeOt (ewS ec79) eeN lw cf ((b * 64) + (if 1 ≤ fr then fr else 1)).toNat (tt - (if 1 ≤ fr then fr else 1) + 1).toNat ((ewK ec96 ec79 iv fr tt hg lw cf sg (b).toNat).2)).1 := by rw [hk65]
                have hk65_21 : ((ewK ec96 ec79 iv fr tt hg lw cf sg (b + 1).toNat).2).2.1 = (eeOt (ewS ec79) eeN lw cf ((b * 64) + (if 1 ≤ fr then fr else 1)).toNat (tt - (if 1 ≤ fr then fr else 1) + 1).toNat ((ewK ec96 ec79 iv fr tt hg lw cf sg (b).toNat).2)).2.1 := by rw [hk65]
                have hk65_221 : ((ewK ec96 ec79 iv fr tt hg lw cf sg (b + 1).toNat).2).2.2.1 = (eeOt (ewS ec79) eeN lw cf ((b * 64) + (if 1 ≤ fr then fr else 1)).toNat (tt - (if 1 ≤ fr then fr else 1) + 1).toNat ((ewK ec96 ec79 iv fr tt hg lw cf sg (b).toNat).2)).2.2.1 := by rw [hk65]
                have hsw66 : gSW tyq44 cq44_0 ((ewK ec96 ec79 iv fr tt hg lw cf sg (b + 1).toNat).2) hq44 := by rw [hk65]; exact yq44_0
                have hok67 : eeOk ((ewK ec96 ec79 iv fr tt hg lw cf sg (b + 1).toNat).2) := by rw [hk65]; exact yq44_1
                have hoc68 := hok67.cur
                refine gy_s 2 (pc' := 7) (L' := [some (.ref x), some (.int ((zi b) + zi 1))]) (S' := []) (L2 := [some (.ref x), some (.int (zi (b + 1)))]) (S2 := []) rfl (by simp only [zi_add, zi_sub, zi_mul, zi_neg, zi_and1, zi_and7, zi_and15, zi_and31, zi_and255]) (by simp only [zi_add, zi_sub, zi_mul, zi_neg, zi_and1, zi_and7, zi_and15, zi_and31, zi_and255]) ?_
                have hl69 : 1024 ≤ hq44.2.2.2.1 bv ∧ hq44.2.2.2.1 bv ≤ 1000000 := gJ.rowl (G := gGG) sS63.1 t48 rfl
                have hl70 : 1024 ≤ hq44.2.2.2.1 cq44_0 ∧ hq44.2.2.2.1 cq44_0 ≤ 1000000 := gJ.rowl (G := gGG) sS63.1 tcq44_0 rfl
                have G71 : gSg [114] [] [56000, 56001, 56002, 56003, 71012, 71013, 71014, 114999] ty h tyq44 hq44 := gSg.ss G45 sS63 (by decide)
                exact gz_wk (ihlp18 tyq44 hq44 cq44_0 (b + 1) fq44_0 fq44_1 fq44_2 bv9 (gms lp18m (by omega) (by omega)) G71 uq62 t46 t47 ecq44_0 tcq44_0 ⟨by omega, by omega⟩ ⟨by omega, by omega⟩ ⟨by omega, by omega⟩ ⟨by omega, by omega⟩ ⟨by omega, by omega⟩ (by omega) (by omega) (by omega) (by omega) (by omega) (by omega) (by omega) (by omega) (by omega) (by omega) (by omega) s50 s51 s52 s53 s54 s55 s56 s57 efq44_0 efq44_1 efq44_2 s58 pr59 pr60 htb64 hsw66 hok67) (gLw.s (gLw.s gLw.z))
              · refine gy_ifF rfl (by decide) (by decide) (by omega) hc41 ?_
                have htb72 := gTab.imp (Q := True) (fun _ => by omega) lp18k14
                refine gy_s 4 (pc' := 86) (L' := [some (.ref x), some (.int (zi b))]) (S' := [.int ((zi b) * (zi 64)), .ref x]) (L2 := [some (.ref x), some (.int (zi b))]) (S2 := [.int (zi (b * 64)), .ref x]) rfl (by simp only [zi_add, zi_sub, zi_mul, zi_neg, zi_and1, zi_and7, zi_and15, zi_and31, zi_and255]) (by simp only [zi_add, zi_sub, zi_mul, zi_neg, zi_and1, zi_and7, zi_and15, zi_and31, zi_and255]) ?_
                have hl73 : h23.2.2.2.1 bv = h23.2.2.2.1 bv := congrFun sh23.2.2.2.2.1 bv
                refine gz_call rfl (by decide) rfl (by decide) (by decide) (gcal_of rfl rfl rfl (Nat.le_of_ble_eq_true rfl) (gJ.recv (G := gGG) sh23.1 lp18c0 rfl rfl)) (cw_refineOthers _ sh23.1 x lp18c0 (b * 64) ⟨by omega, by omega⟩ sk lp18k0 lp18c1 bv lp18r0 lp18r1 cv lp18k8 ⟨by omega, by omega⟩ uv lp18k9 ⟨by omega, by omega⟩ hv lp18k10 ⟨by omega, by omega⟩ cg lp18k1 ⟨by omega, by omega⟩ fr lp18k2 ⟨by omega, by omega⟩ tt lp18k3 ⟨by omega, by omega⟩ lw lp18k5 ⟨by omega, by omega⟩ bs lp18k6 ⟨by omega, by omega⟩ cf ((ewK ec96 ec79 iv fr tt hg lw cf sg (b).toNat).2) ec79 (by omega) (by omega) (by omega) (by omega) (by omega) (by omega) (by omega) lp18u lp18k15 lp18k16 htb72 lp18k12) (fun q74 _ wq74 => ?_)
                obtain ⟨pq74, oq74, hq74⟩ := q74
                obtain ⟨tyq74, xq74, cq74_0, ttq74, fq74_0, fq74_1, fq74_2, ecq74_0, tcq74_0, gq74, efq74_0, afq74_0, bfq74_0, efq74_1, afq74_1, bfq74_1, efq74_2, afq74_2, bfq74_2, uq74_0, uq74_1, uq74_2, uq74_3, uq74_4, uq74_5, uq74_6, uq74_7, uq74_8, yq74_0, yq74_1⟩ := wq74
                dsimp only at uq74_5 uq74_6 uq74_7 uq74_8
                refine ⟨_, gq74, ?_⟩
                show gz gPP gGG gcn _ _ 89 [some (.ref x), some (.int (zi b))] [] hq74 _
                have G75 : gSg [114] [] [56000, 56001, 56002, 56003, 71012, 71013, 71014, 114999] ty h tyq74 hq74 := gSg.tr (gSg.ss lp18G sh23 (by decide)) xq74 (by decide) (by decide) (fun x hx => by cases hx)
                have t76 : tyq74 x = 71 := gSg.typ xq74 sh23.1 lp18c0 rfl
                have t77 : tyq74 sk = 56 := gSg.typ xq74 sh23.1 lp18c1 rfl
                have t78 : tyq74 bv = 114 := gSg.typ xq74 sh23.1 lp18r1 rfl
                have hl79 : hq74.2.2.2.1 bv = h23.2.2.2.1 bv := gSg.len xq74 sh23.1 lp18r1 rfl
                have s80 := gSg.at xq74 sh23.1 lp18c0 rfl (by decide) lp18k0
                have s81 := gSg.at xq74 sh23.1 lp18c0 rfl (by decide) lp18k1
                have s82 := gSg.at xq74 sh23.1 lp18c0 rfl (by decide) lp18k2
                have s83 := gSg.at xq74 sh23.1 lp18c0 rfl (by decide) lp18k3
                have s84 := gSg.at xq74 sh23.1 lp18c0 rfl (by decide) lp18k4
                have s85 := gSg.at xq74 sh23.1 lp18c0 rfl (by decide) lp18k5
                have s86 := gSg.at xq74 sh23.1 lp18c0 rfl (by decide) lp18k6
                have s87 := gSg.at xq74 sh23.1 lp18c0 rfl (by decide) lp18k7
                have s88 := gSg.at xq74 sh23.1 lp18c0 rfl (by decide) lp18k11
                have pr89 := gRn.gr xq74 sh23.1 rfl (by decide) (by decide) lp18k12
                have pr90 := gTab.gr xq74 sh23.1 rfl rfl (fun _ => rfl) (fun _ => rfl) (by decide) (by decide) (by decide) (by decide) lp18k13
                have pr91 := gTab.gr xq74 sh23.1 rfl rfl (fun _ => rfl) (fun _ => rfl) (by decide) (by decide) (by decide) (by decide) htb72
                have uq92 := gSg.uq xq74 lp18u (by decide)
                have sS93 : gSs rT 1027 tyq74 [56000, 56001, 56002, 56003, 71012, 71013, 71014, 114999] hq74 hq74 := gSs.rf xq74.1
                refine gz_s 1 (pc' := 107) (L' := [some (.ref x), some (.int (zi b))]) (S' := []) rfl ?_
                have htb94 := gTab.imp (Q := 0 < tt) (fun _ => trivial) pr91
                have hK : ewK ec96 ec79 iv fr tt hg lw cf sg (b + 1).toNat = ((bv9, (ewK ec96 ec79 iv fr tt hg lw cf sg (b).toNat).2).1, eeRz (ewS ec79) eeN lw cf (b * 64) fr tt ((ewK ec96 ec79 iv fr tt hg lw cf sg (b).toNat).2)) := by
                  rw [hbn]
                  exact ewK_s (P := (bv9, (ewK ec96 ec79 iv fr tt hg lw cf sg (b).toNat).2)) (F := (bv9, (ewK ec96 ec79 iv fr tt hg lw cf sg (b).toNat).2)) ((ewI_n (by omega) (by intro w; rcases w with ⟨w1, w2, w3⟩; first | omega | exact absurd w3 (by assumption))).trans (by rw [show bv9 = (ewK ec96 ec79 iv fr tt hg lw cf sg (b).toNat).1 by omega])) (ite2_2 (by omega) rfl) (ite3_1 ⟨by omega, by omega⟩ (by unfold eeRz; rw [hi1]))
                have hK1 : (ewK ec96 ec79 iv fr tt hg lw cf sg (b + 1).toNat).1 = (bv9, (ewK ec96 ec79 iv fr tt hg lw cf sg (b).toNat).2).1 := by rw [hK]
                have hK2 : (bv9, (ewK ec96 ec79 iv fr tt hg lw cf sg (b).toNat).2).1 = bv9 := rfl
                have hk95 : (ewK ec96 ec79 iv fr tt hg lw cf sg (b + 1).toNat).2 = eeRz (ewS ec79) eeN lw cf (b * 64) fr tt ((ewK ec96 ec79 iv fr tt hg lw cf sg (b).toNat).2) := by rw [hK]
                have hk95_1 : ((ewK ec96 ec79 iv fr tt hg lw cf sg (b + 1).toNat).2).1 = (eeRz (ewS ec79) eeN lw cf (b * 64) fr tt ((ewK ec96 ec79 iv fr tt hg lw cf sg (b).toNat).2)).1 := by rw [hk95]
                have hk95_21 : ((ewK ec96 ec79 iv fr tt hg lw cf sg (b + 1).toNat).2).2.1 = (eeRz (ewS ec79) eeN lw cf (b * 64) fr tt ((ewK ec96 ec79 iv fr tt hg lw cf sg (b).toNat).2)).2.1 := by rw [hk95]
                have hk95_221 : ((ewK ec96 ec79 iv fr tt hg lw cf sg (b + 1).toNat).2).2.2.1 = (eeRz (ewS ec79) eeN lw cf (b * 64) fr tt ((ewK ec96 ec79 iv fr tt hg lw cf sg (b).toNat).2)).2.2.1 := by rw [hk95]
                have hsw96 : gSW tyq74 cq74_0 ((ewK ec96 ec79 iv fr tt hg lw cf sg (b + 1).toNat).2) hq74 := by rw [hk95]; exact yq74_0
                have hok97 : eeOk ((ewK ec96 ec79 iv fr tt hg lw cf sg (b + 1).toNat).2) := by rw [hk95]; exact yq74_1
                have hoc98 := hok97.cur
                refine gy_s 2 (pc' := 7) (L' := [some (.ref x), some (.int ((zi b) + zi 1))]) (S' := []) (L2 := [some (.ref x), some (.int (zi (b + 1)))]) (S2 := []) rfl (by simp only [zi_add, zi_sub, zi_mul, zi_neg, zi_and1, zi_and7, zi_and15, zi_and31, zi_and255]) (by simp only [zi_add, zi_sub, zi_mul, zi_neg, zi_and1, zi_and7, zi_and15, zi_and31, zi_and255]) ?_
                have hl99 : 1024 ≤ hq74.2.2.2.1 bv ∧ hq74.2.2.2.1 bv ≤ 1000000 := gJ.rowl (G := gGG) sS93.1 t78 rfl
                have hl100 : 1024 ≤ hq74.2.2.2.1 cq74_0 ∧ hq74.2.2.2.1 cq74_0 ≤ 1000000 := gJ.rowl (G := gGG) sS93.1 tcq74_0 rfl
                have G101 : gSg [114] [] [56000, 56001, 56002, 56003, 71012, 71013, 71014, 114999] ty h tyq74 hq74 := gSg.ss G75 sS93 (by decide)
                exact gz_wk (ihlp18 tyq74 hq74 cq74_0 (b + 1) fq74_0 fq74_1 fq74_2 bv9 (gms lp18m (by omega) (by omega)) G101 uq92 t76 t77 ecq74_0 tcq74_0 ⟨by omega, by omega⟩ ⟨by omega, by omega⟩ ⟨by omega, by omega⟩ ⟨by omega, by omega⟩ ⟨by omega, by omega⟩ (by omega) (by omega) (by omega) (by omega) (by omega) (by omega) (by omega) (by omega) (by omega) (by omega) (by omega) s80 s81 s82 s83 s84 s85 s86 s87 efq74_0 efq74_1 efq74_2 s88 pr89 pr90 htb94 hsw96 hok97) (gLw.s (gLw.s gLw.z))
          · refine gy_ifF rfl (by decide) (by decide) (by omega) hc33 ?_
            have htb102 := gTab.imp (Q := hg = 0) (fun w => ⟨by omega, w⟩) lp18k13
            refine gy_s 4 (pc' := 64) (L' := [some (.ref x), some (.int (zi b))]) (S' := [.int ((zi b) * (zi 64)), .ref x]) (L2 := [some (.ref x), some (.int (zi b))]) (S2 := [.int (zi (b * 64)), .ref x]) rfl (by simp only [zi_add, zi_sub, zi_mul, zi_neg, zi_and1, zi_and7, zi_and15, zi_and31, zi_and255]) (by simp only [zi_add, zi_sub, zi_mul, zi_neg, zi_and1, zi_and7, zi_and15, zi_and31, zi_and255]) ?_
            have hl103 : h23.2.2.2.1 bv = h23.2.2.2.1 bv := congrFun sh23.2.2.2.2.1 bv
            refine gz_call rfl (by decide) rfl (by decide) (by decide) (gcal_of rfl rfl rfl (Nat.le_of_ble_eq_true rfl) (gJ.recv (G := gGG) sh23.1 lp18c0 rfl rfl)) (cw_putFirst _ sh23.1 x lp18c0 (b * 64) ⟨by omega, by omega⟩ sk lp18k0 lp18c1 bv lp18r0 lp18r1 cv lp18k8 ⟨by omega, by omega⟩ uv lp18k9 ⟨by omega, by omega⟩ hv lp18k10 ⟨by omega, by omega⟩ cg lp18k1 ⟨by omega, by omega⟩ lw lp18k5 ⟨by omega, by omega⟩ hg lp18k4 ⟨by omega, by omega⟩ bs lp18k6 ⟨by omega, by omega⟩ bv9 lp18k11 ⟨by omega, by omega⟩ cf ((ewK ec96 ec79 iv fr tt hg lw cf sg (b).toNat).2) ec96 (by omega) (by omega) (by omega) (by omega) (by omega) (by omega) lp18u lp18k15 lp18k16 lp18k12 htb102) (fun q104 _ wq104 => ?_)
            obtain ⟨pq104, oq104, hq104⟩ := q104
            obtain ⟨tyq104, xq104, cq104_0, ttq104, fq104_0, fq104_1, fq104_2, fq104_3, ecq104_0, tcq104_0, gq104, efq104_0, afq104_0, bfq104_0, efq104_1, afq104_1, bfq104_1, efq104_2, afq104_2, bfq104_2, efq104_3, afq104_3, bfq104_3, uq104_0, uq104_1, uq104_2, uq104_3, uq104_4, uq104_5, uq104_6, uq104_7, uq104_8, uq104_9, yq104_0, yq104_1⟩ := wq104
            dsimp only at uq104_5 uq104_6 uq104_7 uq104_9
            refine ⟨_, gq104, ?_⟩
            show gz gPP gGG gcn _ _ 67 [some (.ref x), some (.int (zi b))] [] hq104 _
            have G105 : gSg [114] [] [56000, 56001, 56002, 56003, 71012, 71013, 71014, 114999] ty h tyq104 hq104 := gSg.tr (gSg.ss lp18G sh23 (by decide)) xq104 (by decide) (by decide) (fun x hx => by cases hx)
            have t106 : tyq104 x = 71 := gSg.typ xq104 sh23.1 lp18c0 rfl
            have t107 : tyq104 sk = 56 := gSg.typ xq104 sh23.1 lp18c1 rfl
            have t108 : tyq104 bv = 114 := gSg.typ xq104 sh23.1 lp18r1 rfl
            have hl109 : hq104.2.2.2.1 bv = h23.2.2.2.1 bv := gSg.len xq104 sh23.1 lp18r1 rfl
            have s110 := gSg.at xq104 sh23.1 lp18c0 rfl (by decide) lp18k0
            have s111 := gSg.at xq104 sh23.1 lp18c0 rfl (by decide) lp18k1
            have s112 := gSg.at xq104 sh23.1 lp18c0 rfl (by decide) lp18k2
            have s113 := gSg.at xq104 sh23.1 lp18c0 rfl (by decide) lp18k3
            have s114 := gSg.at xq104 sh23.1 lp18c0 rfl (by decide) lp18k4
            have s115 := gSg.at xq104 sh23.1 lp18c0 rfl (by decide) lp18k5
            have s116 := gSg.at xq104 sh23.1 lp18c0 rfl (by decide) lp18k6
            have s117 := gSg.at xq104 sh23.1 lp18c0 rfl (by decide) lp18k7
            have pr118 := gRn.gr xq104 sh23.1 rfl (by decide) (by decide) lp18k12
            have pr119 := gTab.gr xq104 sh23.1 rfl rfl (fun _ => rfl) (fun _ => rfl) (by decide) (by decide) (by decide) (by decide) htb102
            have pr120 := gTab.gr xq104 sh23.1 rfl rfl (fun _ => rfl) (fun _ => rfl) (by decide) (by decide) (by decide) (by decide) lp18k14
            have uq121 := gSg.uq xq104 lp18u (by decide)
            have sS122 : gSs rT 1027 tyq104 [56000, 56001, 56002, 56003, 71012, 71013, 71014, 114999] hq104 hq104 := gSs.rf xq104.1
            have htb123 := gTab.imp (Q := fr = 0 ∧ hg = 0) (fun w => w.2) pr119
            refine gz_s 1 (pc' := 68) (L' := [some (.ref x), some (.int (zi b))]) (S' := [.ref x]) rfl ?_
            refine gs_gtk rfl (by decide) rfl sS122.1 t106 rfl rfl s113 ?_
            by_cases hc124 : (tt : Int) ≤ 0
            · refine gy_ifT (pc' := 92) rfl (by decide) (by decide) (by omega) hc124 ?_
              refine gz_s 1 (pc' := 93) (L' := [some (.ref x), some (.int (zi b))]) (S' := [.ref x]) rfl ?_
              refine gs_gtk rfl (by decide) rfl sS122.1 t106 rfl rfl s113 ?_
              refine gy_ifT (pc' := 107) rfl (by decide) (by decide) ⟨by omega, by omega⟩ (by first | (simp [zc]; done) | (simp only [zc]; omega)) ?_
              have hK : ewK ec96 ec79 iv fr tt hg lw cf sg (b + 1).toNat = ((eeFi (ewS ec96) eeN lw hg (cf ((b * 64)).toNat) bv9 ((ewK ec96 ec79 iv fr tt hg lw cf sg (b).toNat).2)).1, (eeFi (ewS ec96) eeN lw hg (cf ((b * 64)).toNat) bv9 ((ewK ec96 ec79 iv fr tt hg lw cf sg (b).toNat).2)).2) := by
                rw [hbn]
                exact ewK_s (P := (bv9, (ewK ec96 ec79 iv fr tt hg lw cf sg (b).toNat).2)) (F := (eeFi (ewS ec96) eeN lw hg (cf ((b * 64)).toNat) bv9 ((ewK ec96 ec79 iv fr tt hg lw cf sg (b).toNat).2))) ((ewI_n (by omega) (by intro w; rcases w with ⟨w1, w2, w3⟩; first | omega | exact absurd w3 (by assumption))).trans (by rw [show bv9 = (ewK ec96 ec79 iv fr tt hg lw cf sg (b).toNat).1 by omega])) (ite2_1 (by omega) (by rw [hi0])) (ite3_3 (by omega) (by omega) rfl)
              have hK1 : (ewK ec96 ec79 iv fr tt hg lw cf sg (b + 1).toNat).1 = (eeFi (ewS ec96) eeN lw hg (cf ((b * 64)).toNat) bv9 ((ewK ec96 ec79 iv fr tt hg lw cf sg (b).toNat).2)).1 := by rw [hK]
              have hk125 : (ewK ec96 ec79 iv fr tt hg lw cf sg (b + 1).toNat).2 = (eeFi (ewS ec96) eeN lw hg (cf ((b * 64)).toNat) bv9 ((ewK ec96 ec79 iv fr tt hg lw cf sg (b).toNat).2)).2 := by rw [hK]
              have hk125_1 : ((ewK ec96 ec79 iv fr tt hg lw cf sg (b + 1).toNat).2).1 = ((eeFi (ewS ec96) eeN lw hg (cf ((b * 64)).toNat) bv9 ((ewK ec96 ec79 iv fr tt hg lw cf sg (b).toNat).2)).2).1 := by rw [hk125]
              have hk125_21 : ((ewK ec96 ec79 iv fr tt hg lw cf sg (b + 1).toNat).2).2.1 = ((eeFi (ewS ec96) eeN lw hg (cf ((b * 64)).toNat) bv9 ((ewK ec96 ec79 iv fr tt hg lw cf sg (b).toNat).2)).2).2.1 := by rw [hk125]
              have hk125_221 : ((ewK ec96 ec79 iv fr tt hg lw cf sg (b + 1).toNat).2).2.2.1 = ((eeFi (ewS ec96) eeN lw hg (cf ((b * 64)).toNat) bv9 ((ewK ec96 ec79 iv fr tt hg lw cf sg (b).toNat).2)).2).2.2.1 := by rw [hk125]
              have hsw126 : gSW tyq104 cq104_0 ((ewK ec96 ec79 iv fr tt hg lw cf sg (b + 1).toNat).2) hq104 := by rw [hk125]; exact yq104_0
              have hok127 : eeOk ((ewK ec96 ec79 iv fr tt hg lw cf sg (b + 1).toNat).2) := by rw [hk125]; exact yq104_1
              have hoc128 := hok127.cur
              refine gy_s 2 (pc' := 7) (L' := [some (.ref x), some (.int ((zi b) + zi 1))]) (S' := []) (L2 := [some (.ref x), some (.int (zi (b + 1)))]) (S2 := []) rfl (by simp only [zi_add, zi_sub, zi_mul, zi_neg, zi_and1, zi_and7, zi_and15, zi_and31, zi_and255]) (by simp only [zi_add, zi_sub, zi_mul, zi_neg, zi_and1, zi_and7, zi_and15, zi_and31, zi_and255]) ?_
              have hl129 : 1024 ≤ hq104.2.2.2.1 bv ∧ hq104.2.2.2.1 bv ≤ 1000000 := gJ.rowl (G := gGG) sS122.1 t108 rfl
              have hl130 : 1024 ≤ hq104.2.2.2.1 cq104_0 ∧ hq104.2.2.2.1 cq104_0 ≤ 1000000 := gJ.rowl (G := gGG) sS122.1 tcq104_0 rfl
              have G131 : gSg [114] [] [56000, 56001, 56002, 56003, 71012, 71013, 71014, 114999] ty h tyq104 hq104 := gSg.ss G105 sS122 (by decide)
              exact gz_wk (ihlp18 tyq104 hq104 cq104_0 (b + 1) fq104_0 fq104_1 fq104_2 fq104_3 (gms lp18m (by omega) (by omega)) G131 uq121 t106 t107 ecq104_0 tcq104_0 ⟨by omega, by omega⟩ ⟨by omega, by omega⟩ ⟨by omega, by omega⟩ ⟨by omega, by omega⟩ ⟨by omega, by omega⟩ (by omega) (by omega) (by omega) (by omega) (by omega) (by omega) (by omega) (by omega) (by omega) (by omega) (by omega) s110 s111 s112 s113 s114 s115 s116 s117 efq104_0 efq104_1 efq104_2 efq104_3 pr118 htb123 pr120 hsw126 hok127) (gLw.s (gLw.s gLw.z))
            · refine gy_ifF rfl (by decide) (by decide) (by omega) hc124 ?_
              refine gz_s 1 (pc' := 75) (L' := [some (.ref x), some (.int (zi b))]) (S' := [.ref x]) rfl ?_
              refine gs_gtk rfl (by decide) rfl sS122.1 t106 rfl rfl s114 ?_
              by_cases hc132 : (hg : Int) ≤ 0
              · refine gy_ifT (pc' := 92) rfl (by decide) (by decide) (by omega) hc132 ?_
                refine gz_s 1 (pc' := 93) (L' := [some (.ref x), some (.int (zi b))]) (S' := [.ref x]) rfl ?_
                refine gs_gtk rfl (by decide) rfl sS122.1 t106 rfl rfl s113 ?_
                refine gy_ifF rfl (by decide) (by decide) ⟨by omega, by omega⟩ (by first | (simp [zc]; done) | (simp only [zc]; omega)) ?_
                have htb133 := gTab.imp (Q := True) (fun _ => by omega) pr120
                refine gy_s 4 (pc' := 104) (L' := [some (.ref x), some (.int (zi b))]) (S' := [.int ((zi b) * (zi 64)), .ref x]) (L2 := [some (.ref x), some (.int (zi b))]) (S2 := [.int (zi (b * 64)), .ref x]) rfl (by simp only [zi_add, zi_sub, zi_mul, zi_neg, zi_and1, zi_and7, zi_and15, zi_and31, zi_and255]) (by simp only [zi_add, zi_sub, zi_mul, zi_neg, zi_and1, zi_and7, zi_and15, zi_and31, zi_and255]) ?_
                have hl134 : hq104.2.2.2.1 cq104_0 = hq104.2.2.2.1 cq104_0 := congrFun sS122.2.2.2.2.1 cq104_0
                refine gz_call rfl (by decide) rfl (by decide) (by decide) (gcal_of rfl rfl rfl (Nat.le_of_ble_eq_true rfl) (gJ.recv (G := gGG) sS122.1 t106 rfl rfl)) (cw_putOthers _ sS122.1 x t106 (b * 64) ⟨by omega, by omega⟩ sk s110 t107 cq104_0 ecq104_0 tcq104_0 fq104_0 efq104_0 ⟨by omega, by omega⟩ fq104_1 efq104_1 ⟨by omega, by omega⟩ fq104_2 efq104_2 ⟨by omega, by omega⟩ cg s111 ⟨by omega, by omega⟩ fr s112 ⟨by omega, by omega⟩ tt s113 ⟨by omega, by omega⟩ lw s115 ⟨by omega, by omega⟩ bs s116 ⟨by omega, by omega⟩ cf ((eeFi (ewS ec96) eeN lw hg (cf ((b * 64)).toNat) bv9 ((ewK ec96 ec79 iv fr tt hg lw cf sg (b).toNat).2)).2) ec79 (by omega) (by omega) (by omega) (by omega) (by omega) (by omega) (by omega) (by omega) uq121 yq104_0 yq104_1 htb133 pr118) (fun q135 _ wq135 => ?_)
                obtain ⟨pq135, oq135, hq135⟩ := q135
                obtain ⟨tyq135, xq135, cq135_0, ttq135, fq135_0, fq135_1, fq135_2, ecq135_0, tcq135_0, gq135, efq135_0, afq135_0, bfq135_0, efq135_1, afq135_1, bfq135_1, efq135_2, afq135_2, bfq135_2, uq135_0, uq135_1, uq135_2, uq135_3, uq135_4, uq135_5, uq135_6, uq135_7, uq135_8, yq135_0, yq135_1⟩ := wq135
                dsimp only at uq135_5 uq135_6 uq135_7 uq135_8
                refine ⟨_, gq135, ?_⟩
                show gz gPP gGG gcn _ _ 107 [some (.ref x), some (.int (zi b))] [] hq135 _
                have G136 : gSg [114] [] [56000, 56001, 56002, 56003, 71012, 71013, 71014, 114999] ty h tyq135 hq135 := gSg.tr (gSg.ss G105 sS122 (by decide)) xq135 (by decide) (by decide) (fun x hx => by cases hx)
                have t137 : tyq135 x = 71 := gSg.typ xq135 sS122.1 t106 rfl
                have t138 : tyq135 sk = 56 := gSg.typ xq135 sS122.1 t107 rfl
                have t139 : tyq135 bv = 114 := gSg.typ xq135 sS122.1 t108 rfl
                have hl140 : hq135.2.2.2.1 bv = hq104.2.2.2.1 bv := gSg.len xq135 sS122.1 t108 rfl
                have t141 : tyq135 cq104_0 = 114 := gSg.typ xq135 sS122.1 tcq104_0 rfl
                have hl142 : hq135.2.2.2.1 cq104_0 = hq104.2.2.2.1 cq104_0 := gSg.len xq135 sS122.1 tcq104_0 rfl
                have s143 := gSg.at xq135 sS122.1 t106 rfl (by decide) s110
                have s144 := gSg.at xq135 sS122.1 t106 rfl (by decide) s111
                have s145 := gSg.at xq135 sS122.1 t106 rfl (by decide) s112
                have s146 := gSg.at xq135 sS122.1 t106 rfl (by decide) s113
                have s147 := gSg.at xq135 sS122.1 t106 rfl (by decide) s114
                have s148 := gSg.at xq135 sS122.1 t106 rfl (by decide) s115
                have s149 := gSg.at xq135 sS122.1 t106 rfl (by decide) s116
                have s150 := gSg.at xq135 sS122.1 t106 rfl (by decide) s117
                have s151 := gSg.at xq135 sS122.1 t106 rfl (by decide) efq104_3
                have pr152 := gRn.gr xq135 sS122.1 rfl (by decide) (by decide) pr118
                have pr153 := gTab.gr xq135 sS122.1 rfl rfl (fun _ => rfl) (fun _ => rfl) (by decide) (by decide) (by decide) (by decide) htb123
                have pr154 := gTab.gr xq135 sS122.1 rfl rfl (fun _ => rfl) (fun _ => rfl) (by decide) (by decide) (by decide) (by decide) htb133
                have uq155 := gSg.uq xq135 uq121 (by decide)
                have sS156 : gSs rT 1027 tyq135 [56000, 56001, 56002, 56003, 71012, 71013, 71014, 114999] hq135 hq135 := gSs.rf xq135.1
                have htb157 := gTab.imp (Q := 0 < tt) (fun _ => trivial) pr154
                have hK : ewK ec96 ec79 iv fr tt hg lw cf sg (b + 1).toNat = ((eeFi (ewS ec96) eeN lw hg (cf ((b * 64)).toNat) bv9 ((ewK ec96 ec79 iv fr tt hg lw cf sg (b).toNat).2)).1, eeOt (ewS ec79) eeN lw cf ((b * 64) + (if 1 ≤ fr then fr else 1)).toNat (tt - (if 1 ≤ fr then fr else 1) + 1).toNat ((eeFi (ewS ec96) eeN lw hg (cf ((b * 64)).toNat) bv9 ((ewK ec96 ec79 iv fr tt hg lw cf sg (b).toNat).2)).2)) := by
                  rw [hbn]
                  exact ewK_s (P := (bv9, (ewK ec96 ec79 iv fr tt hg lw cf sg (b).toNat).2)) (F := (eeFi (ewS ec96) eeN lw hg (cf ((b * 64)).toNat) bv9 ((ewK ec96 ec79 iv fr tt hg lw cf sg (b).toNat).2))) ((ewI_n (by omega) (by intro w; rcases w with ⟨w1, w2, w3⟩; first | omega | exact absurd w3 (by assumption))).trans (by rw [show bv9 = (ewK ec96 ec79 iv fr tt hg lw cf sg (b).toNat).1 by omega])) (ite2_1 (by omega) (by rw [hi0])) (ite3_2 (by omega) (by omega) (by rw [hi2]))
                have hK1 : (ewK ec96 ec79 iv fr tt hg lw cf sg (b + 1).toNat).1 = (eeFi (ewS ec96) eeN lw hg (cf ((b * 64)).toNat) bv9 ((ewK ec96 ec79 iv fr tt hg lw cf sg (b).toNat).2)).1 := by rw [hK]
                have hk158 : (ewK ec96 ec79 iv fr tt hg lw cf sg (b + 1).toNat).2 = eeOt (ewS ec79) eeN lw cf ((b * 64) + (if 1 ≤ fr then fr else 1)).toNat (tt - (if 1 ≤ fr then fr else 1) + 1).toNat ((eeFi (ewS ec96) eeN lw hg (cf ((b * 64)).toNat) bv9 ((ewK ec96 ec79 iv fr tt hg lw cf sg (b).toNat).2)).2) := by rw [hK]
                have hk158_1 : ((ewK ec96 ec79 iv fr tt hg lw cf sg (b + 1).toNat).2).1 = (eeOt (ewS ec79) eeN lw cf ((b * 64) + (if 1 ≤ fr then fr else 1)).toNat (tt - (if 1 ≤ fr then fr else 1) + 1).toNat ((eeFi (ewS ec96) eeN lw hg (cf ((b * 64)).toNat) bv9 ((ewK ec96 ec79 iv fr tt hg lw cf sg (b).toNat).2)).2)).1 := by rw [hk158]
                have hk158_21 : ((ewK ec96 ec79 iv fr tt hg lw cf sg (b + 1).toNat).2).2.1 = (eeOt (ewS ec79) eeN lw cf ((b * 64) + (if 1 ≤ fr then fr else 1)).toNat (tt - (if 1 ≤ fr then fr else 1) + 1).toNat ((eeFi (ewS ec96) eeN lw hg (cf ((b * 64)).toNat) bv9 ((ewK ec96 ec79 iv fr tt hg lw cf sg (b).toNat).2)).2)).2.1 := by rw [hk158]
                have hk158_221 : ((ewK ec96 ec79 iv fr tt hg lw cf sg (b + 1).toNat).2).2.2.1 = (eeOt (ewS ec79) eeN lw cf ((b * 64) + (if 1 ≤ fr then fr else 1)).toNat (tt - (if 1 ≤ fr then fr else 1) + 1).toNat ((eeFi (ewS ec96) eeN lw hg (cf ((b * 64)).toNat) bv9 ((ewK ec96 ec79 iv fr tt hg lw cf sg (b).toNat).2)).2)).2.2.1 := by rw [hk158]
                have hsw159 : gSW tyq135 cq135_0 ((ewK ec96 ec79 iv fr tt hg lw cf sg (b + 1).toNat).2) hq135 := by rw [hk158]; exact yq135_0
                have hok160 : eeOk ((ewK ec96 ec79 iv fr tt hg lw cf sg (b + 1).toNat).2) := by rw [hk158]; exact yq135_1
                have hoc161 := hok160.cur
                refine gy_s 2 (pc' := 7) (L' := [some (.ref x), some (.int ((zi b) + zi 1))]) (S' := []) (L2 := [some (.ref x), some (.int (zi (b + 1)))]) (S2 := []) rfl (by simp only [zi_add, zi_sub, zi_mul, zi_neg, zi_and1, zi_and7, zi_and15, zi_and31, zi_and255]) (by simp only [zi_add, zi_sub, zi_mul, zi_neg, zi_and1, zi_and7, zi_and15, zi_and31, zi_and255]) ?_
                have hl162 : 1024 ≤ hq135.2.2.2.1 bv ∧ hq135.2.2.2.1 bv ≤ 1000000 := gJ.rowl (G := gGG) sS156.1 t139 rfl
                have hl163 : 1024 ≤ hq135.2.2.2.1 cq104_0 ∧ hq135.2.2.2.1 cq104_0 ≤ 1000000 := gJ.rowl (G := gGG) sS156.1 t141 rfl
                have hl164 : 1024 ≤ hq135.2.2.2.1 cq135_0 ∧ hq135.2.2.2.1 cq135_0 ≤ 1000000 := gJ.rowl (G := gGG) sS156.1 tcq135_0 rfl
                have G165 : gSg [114] [] [56000, 56001, 56002, 56003, 71012, 71013, 71014, 114999] ty h tyq135 hq135 := gSg.ss G136 sS156 (by decide)
                exact gz_wk (ihlp18 tyq135 hq135 cq135_0 (b + 1) fq135_0 fq135_1 fq135_2 fq104_3 (gms lp18m (by omega) (by omega)) G165 uq155 t137 t138 ecq135_0 tcq135_0 ⟨by omega, by omega⟩ ⟨by omega, by omega⟩ ⟨by omega, by omega⟩ ⟨by omega, by omega⟩ ⟨by omega, by omega⟩ (by omega) (by omega) (by omega) (by omega) (by omega) (by omega) (by omega) (by omega) (by omega) (by omega) (by omega) s143 s144 s145 s146 s147 s148 s149 s150 efq135_0 efq135_1 efq135_2 s151 pr152 pr153 htb157 hsw159 hok160) (gLw.s (gLw.s gLw.z))
              · refine gy_ifF rfl (by decide) (by decide) (by omega) hc132 ?_
                have htb166 := gTab.imp (Q := True) (fun _ => by omega) pr120
                refine gy_s 4 (pc' := 86) (L' := [some (.ref x), some (.int (zi b))]) (S' := [.int ((zi b) * (zi 64)), .ref x]) (L2 := [some (.ref x), some (.int (zi b))]) (S2 := [.int (zi (b * 64)), .ref x]) rfl (by simp only [zi_add, zi_sub, zi_mul, zi_neg, zi_and1, zi_and7, zi_and15, zi_and31, zi_and255]) (by simp only [zi_add, zi_sub, zi_mul, zi_neg, zi_and1, zi_and7, zi_and15, zi_and31, zi_and255]) ?_
                have hl167 : hq104.2.2.2.1 cq104_0 = hq104.2.2.2.1 cq104_0 := congrFun sS122.2.2.2.2.1 cq104_0
                refine gz_call rfl (by decide) rfl (by decide) (by decide) (gcal_of rfl rfl rfl (Nat.le_of_ble_eq_true rfl) (gJ.recv (G := gGG) sS122.1 t106 rfl rfl)) (cw_refineOthers _ sS122.1 x t106 (b * 64) ⟨by omega, by omega⟩ sk s110 t107 cq104_0 ecq104_0 tcq104_0 fq104_0 efq104_0 ⟨by omega, by omega⟩ fq104_1 efq104_1 ⟨by omega, by omega⟩ fq104_2 efq104_2 ⟨by omega, by omega⟩ cg s111 ⟨by omega, by omega⟩ fr s112 ⟨by omega, by omega⟩ tt s113 ⟨by omega, by omega⟩ lw s115 ⟨by omega, by omega⟩ bs s116 ⟨by omega, by omega⟩ cf ((eeFi (ewS ec96) eeN lw hg (cf ((b * 64)).toNat) bv9 ((ewK ec96 ec79 iv fr tt hg lw cf sg (b).toNat).2)).2) ec79 (by omega) (by omega) (by omega) (by omega) (by omega) (by omega) (by omega) uq121 yq104_0 yq104_1 htb166 pr118) (fun q168 _ wq168 => ?_)
                obtain ⟨pq168, oq168, hq168⟩ := q168
                obtain ⟨tyq168, xq168, cq168_0, ttq168, fq168_0, fq168_1, fq168_2, ecq168_0, tcq168_0, gq168, efq168_0, afq168_0, bfq168_0, efq168_1, afq168_1, bfq168_1, efq168_2, afq168_2, bfq168_2, uq168_0, uq168_1, uq168_2, uq168_3, uq168_4, uq168_5, uq168_6, uq168_7, uq168_8, yq168_0, yq168_1⟩ := wq168
                dsimp only at uq168_5 uq168_6 uq168_7 uq168_8
                refine ⟨_, gq168, ?_⟩
                show gz gPP gGG gcn _ _ 89 [some (.ref x), some (.int (zi b))] [] hq168 _
                have G169 : gSg [114] [] [56000, 56001, 56002, 56003, 71012, 71013, 71014, 114999] ty h tyq168 hq168 := gSg.tr (gSg.ss G105 sS122 (by decide)) xq168 (by decide) (by decide) (fun x hx => by cases hx)
                have t170 : tyq168 x = 71 := gSg.typ xq168 sS122.1 t106 rfl
                have t171 : tyq168 sk = 56 := gSg.typ xq168 sS122.1 t107 rfl
                have t172 : tyq168 bv = 114 := gSg.typ xq168 sS122.1 t108 rfl
                have hl173 : hq168.2.2.2.1 bv = hq104.2.2.2.1 bv := gSg.len xq168 sS122.1 t108 rfl
                have t174 : tyq168 cq104_0 = 114 := gSg.typ xq168 sS122.1 tcq104_0 rfl
                have hl175 : hq168.2.2.2.1 cq104_0 = hq104.2.2.2.1 cq104_0 := gSg.len xq168 sS122.1 tcq104_0 rfl
                have s176 := gSg.at xq168 sS122.1 t106 rfl (by decide) s110
                have s177 := gSg.at xq168 sS122.1 t106 rfl (by decide) s111
                have s178 := gSg.at xq168 sS122.1 t106 rfl (by decide) s112
                have s179 := gSg.at xq168 sS122.1 t106 rfl (by decide) s113
                have s180 := gSg.at xq168 sS122.1 t106 rfl (by decide) s114
                have s181 := gSg.at xq168 sS122.1 t106 rfl (by decide) s115
                have s182 := gSg.at xq168 sS122.1 t106 rfl (by decide) s116
                have s183 := gSg.at xq168 sS122.1 t106 rfl (by decide) s117
                have s184 := gSg.at xq168 sS122.1 t106 rfl (by decide) efq104_3
                have pr185 := gRn.gr xq168 sS122.1 rfl (by decide) (by decide) pr118
                have pr186 := gTab.gr xq168 sS122.1 rfl rfl (fun _ => rfl) (fun _ => rfl) (by decide) (by decide) (by decide) (by decide) htb123
                have pr187 := gTab.gr xq168 sS122.1 rfl rfl (fun _ => rfl) (fun _ => rfl) (by decide) (by decide) (by decide) (by decide) htb166
                have uq188 := gSg.uq xq168 uq121 (by decide)
                have sS189 : gSs rT 1027 tyq168 [56000, 56001, 56002, 56003, 71012, 71013, 71014, 114999] hq168 hq168 := gSs.rf xq168.1
                refine gz_s 1 (pc' := 107) (L' := [some (.ref x), some (.int (zi b))]) (S' := []) rfl ?_
                have htb190 := gTab.imp (Q := 0 < tt) (fun _ => trivial) pr187
                have hK : ewK ec96 ec79 iv fr tt hg lw cf sg (b + 1).toNat = ((eeFi (ewS ec96) eeN lw hg (cf ((b * 64)).toNat) bv9 ((ewK ec96 ec79 iv fr tt hg lw cf sg (b).toNat).2)).1, eeRz (ewS ec79) eeN lw cf (b * 64) fr tt ((eeFi (ewS ec96) eeN lw hg (cf ((b * 64)).toNat) bv9 ((ewK ec96 ec79 iv fr tt hg lw cf sg (b).toNat).2)).2)) := by
                  rw [hbn]
                  exact ewK_s (P := (bv9, (ewK ec96 ec79 iv fr tt hg lw cf sg (b).toNat).2)) (F := (eeFi (ewS ec96) eeN lw hg (cf ((b * 64)).toNat) bv9 ((ewK ec96 ec79 iv fr tt hg lw cf sg (b).toNat).2))) ((ewI_n (by omega) (by intro w; rcases w with ⟨w1, w2, w3⟩; first | omega | exact absurd w3 (by assumption))).trans (by rw [show bv9 = (ewK ec96 ec79 iv fr tt hg lw cf sg (b).toNat).1 by omega])) (ite2_1 (by omega) (by rw [hi0])) (ite3_1 ⟨by omega, by omega⟩ (by unfold eeRz; rw [hi1]))
                have hK1 : (ewK ec96 ec79 iv fr tt hg lw cf sg (b + 1).toNat).1 = (eeFi (ewS ec96) eeN lw hg (cf ((b * 64)).toNat) bv9 ((ewK ec96 ec79 iv fr tt hg lw cf sg (b).toNat).2)).1 := by rw [hK]
                have hk191 : (ewK ec96 ec79 iv fr tt hg lw cf sg (b + 1).toNat).2 = eeRz (ewS ec79) eeN lw cf (b * 64) fr tt ((eeFi (ewS ec96) eeN lw hg (cf ((b * 64)).toNat) bv9 ((ewK ec96 ec79 iv fr tt hg lw cf sg (b).toNat).2)).2) := by rw [hK]
                have hk191_1 : ((ewK ec96 ec79 iv fr tt hg lw cf sg (b + 1).toNat).2).1 = (eeRz (ewS ec79) eeN lw cf (b * 64) fr tt ((eeFi (ewS ec96) eeN lw hg (cf ((b * 64)).toNat) bv9 ((ewK ec96 ec79 iv fr tt hg lw cf sg (b).toNat).2)).2)).1 := by rw [hk191]
                have hk191_21 : ((ewK ec96 ec79 iv fr tt hg lw cf sg (b + 1).toNat).2).2.1 = (eeRz (ewS ec79) eeN lw cf (b * 64) fr tt ((eeFi (ewS ec96) eeN lw hg (cf ((b * 64)).toNat) bv9 ((ewK ec96 ec79 iv fr tt hg lw cf sg (b).toNat).2)).2)).2.1 := by rw [hk191]
                have hk191_221 : ((ewK ec96 ec79 iv fr tt hg lw cf sg (b + 1).toNat).2).2.2.1 = (eeRz (ewS ec79) eeN lw cf (b * 64) fr tt ((eeFi (ewS ec96) eeN lw hg (cf ((b * 64)).toNat) bv9 ((ewK ec96 ec79 iv fr tt hg lw cf sg (b).toNat).2)).2)).2.2.1 := by rw [hk191]
                have hsw192 : gSW tyq168 cq168_0 ((ewK ec96 ec79 iv fr tt hg lw cf sg (b + 1).toNat).2) hq168 := by rw [hk191]; exact yq168_0
                have hok193 : eeOk ((ewK ec96 ec79 iv fr tt hg lw cf sg (b + 1).toNat).2) := by rw [hk191]; exact yq168_1
                have hoc194 := hok193.cur
                refine gy_s 2 (pc' := 7) (L' := [some (.ref x), some (.int ((zi b) + zi 1))]) (S' := []) (L2 := [some (.ref x), some (.int (zi (b + 1)))]) (S2 := []) rfl (by simp only [zi_add, zi_sub, zi_mul, zi_neg, zi_and1, zi_and7, zi_and15, zi_and31, zi_and255]) (by simp only [zi_add, zi_sub, zi_mul, zi_neg, zi_and1, zi_and7, zi_and15, zi_and31, zi_and255]) ?_
                have hl195 : 1024 ≤ hq168.2.2.2.1 bv ∧ hq168.2.2.2.1 bv ≤ 1000000 := gJ.rowl (G := gGG) sS189.1 t172 rfl
                have hl196 : 1024 ≤ hq168.2.2.2.1 cq104_0 ∧ hq168.2.2.2.1 cq104_0 ≤ 1000000 := gJ.rowl (G := gGG) sS189.1 t174 rfl
                have hl197 : 1024 ≤ hq168.2.2.2.1 cq168_0 ∧ hq168.2.2.2.1 cq168_0 ≤ 1000000 := gJ.rowl (G := gGG) sS189.1 tcq168_0 rfl
                have G198 : gSg [114] [] [56000, 56001, 56002, 56003, 71012, 71013, 71014, 114999] ty h tyq168 hq168 := gSg.ss G169 sS189 (by decide)
                exact gz_wk (ihlp18 tyq168 hq168 cq168_0 (b + 1) fq168_0 fq168_1 fq168_2 fq104_3 (gms lp18m (by omega) (by omega)) G198 uq188 t170 t171 ecq168_0 tcq168_0 ⟨by omega, by omega⟩ ⟨by omega, by omega⟩ ⟨by omega, by omega⟩ ⟨by omega, by omega⟩ ⟨by omega, by omega⟩ (by omega) (by omega) (by omega) (by omega) (by omega) (by omega) (by omega) (by omega) (by omega) (by omega) (by omega) s176 s177 s178 s179 s180 s181 s182 s183 efq168_0 efq168_1 efq168_2 s184 pr185 pr186 htb190 hsw192 hok193) (gLw.s (gLw.s gLw.z))
        · refine gy_ifF rfl (by decide) (by decide) (by omega) hc32 ?_
          refine gz_s 1 (pc' := 23) (L' := [some (.ref x), some (.int (zi b))]) (S' := [.int (zi b)]) rfl ?_
          by_cases hc199 : (b : Int) ≤ 0
          · refine gy_ifT (pc' := 52) rfl (by decide) (by decide) (by omega) hc199 ?_
            refine gz_s 1 (pc' := 53) (L' := [some (.ref x), some (.int (zi b))]) (S' := [.ref x]) rfl ?_
            refine gs_gtk rfl (by decide) rfl sh23.1 lp18c0 rfl rfl lp18k2 ?_
            by_cases hc200 : ¬ (fr : Int) = 0
            · refine gy_ifT (pc' := 67) rfl (by decide) (by decide) (by omega) hc200 ?_
              refine gz_s 1 (pc' := 68) (L' := [some (.ref x), some (.int (zi b))]) (S' := [.ref x]) rfl ?_
              refine gs_gtk rfl (by decide) rfl sh23.1 lp18c0 rfl rfl lp18k3 ?_
              by_cases hc201 : (tt : Int) ≤ 0
              · refine gy_ifT (pc' := 92) rfl (by decide) (by decide) (by omega) hc201 ?_
                refine gz_s 1 (pc' := 93) (L' := [some (.ref x), some (.int (zi b))]) (S' := [.ref x]) rfl ?_
                refine gs_gtk rfl (by decide) rfl sh23.1 lp18c0 rfl rfl lp18k3 ?_
                refine gy_ifT (pc' := 107) rfl (by decide) (by decide) ⟨by omega, by omega⟩ (by first | (simp [zc]; done) | (simp only [zc]; omega)) ?_
                have hK : ewK ec96 ec79 iv fr tt hg lw cf sg (b + 1).toNat = ((bv9, (ewK ec96 ec79 iv fr tt hg lw cf sg (b).toNat).2).1, (ewK ec96 ec79 iv fr tt hg lw cf sg (b).toNat).2) := by
                  rw [hbn]
                  exact ewK_s (P := (bv9, (ewK ec96 ec79 iv fr tt hg lw cf sg (b).toNat).2)) (F := (bv9, (ewK ec96 ec79 iv fr tt hg lw cf sg (b).toNat).2)) ((ewI_n (by omega) (by intro w; rcases w with ⟨w1, w2, w3⟩; first | omega | exact absurd w3 (by assumption))).trans (by rw [show bv9 = (ewK ec96 ec79 iv fr tt hg lw cf sg (b).toNat).1 by omega])) (ite2_2 (by omega) rfl) (ite3_3 (by omega) (by omega) rfl)
                have hK1 : (ewK ec96 ec79 iv fr tt hg lw cf sg (b + 1).toNat).1 = (bv9, (ewK ec96 ec79 iv fr tt hg lw cf sg (b).toNat).2).1 := by rw [hK]
                have hK2 : (bv9, (ewK ec96 ec79 iv fr tt hg lw cf sg (b).toNat).2).1 = bv9 := rfl
                have hk202 : (ewK ec96 ec79 iv fr tt hg lw cf sg (b + 1).toNat).2 = (ewK ec96 ec79 iv fr tt hg lw cf sg (b).toNat).2 := by rw [hK]
                have hk202_1 : ((ewK ec96 ec79 iv fr tt hg lw cf sg (b + 1).toNat).2).1 = ((ewK ec96 ec79 iv fr tt hg lw cf sg (b).toNat).2).1 := by rw [hk202]
                have hk202_21 : ((ewK ec96 ec79 iv fr tt hg lw cf sg (b + 1).toNat).2).2.1 = ((ewK ec96 ec79 iv fr tt hg lw cf sg (b).toNat).2).2.1 := by rw [hk202]
                have hk202_221 : ((ewK ec96 ec79 iv fr tt hg lw cf sg (b + 1).toNat).2).2.2.1 = ((ewK ec96 ec79 iv fr tt hg lw cf sg (b).toNat).2).2.2.1 := by rw [hk202]
                have hsw203 : gSW ty24 bv ((ewK ec96 ec79 iv fr tt hg lw cf sg (b + 1).toNat).2) h23 := by rw [hk202]; exact lp18k15
                have hok204 : eeOk ((ewK ec96 ec79 iv fr tt hg lw cf sg (b + 1).toNat).2) := by rw [hk202]; exact lp18k16
                have hoc205 := hok204.cur
                refine gy_s 2 (pc' := 7) (L' := [some (.ref x), some (.int ((zi b) + zi 1))]) (S' := []) (L2 := [some (.ref x), some (.int (zi (b + 1)))]) (S2 := []) rfl (by simp only [zi_add, zi_sub, zi_mul, zi_neg, zi_and1, zi_and7, zi_and15, zi_and31, zi_and255]) (by simp only [zi_add, zi_sub, zi_mul, zi_neg, zi_and1, zi_and7, zi_and15, zi_and31, zi_and255]) ?_
                have hl206 : 1024 ≤ h23.2.2.2.1 bv ∧ h23.2.2.2.1 bv ≤ 1000000 := gJ.rowl (G := gGG) sh23.1 lp18r1 rfl
                have G207 : gSg [114] [] [56000, 56001, 56002, 56003, 71012, 71013, 71014, 114999] ty h ty24 h23 := gSg.ss lp18G sh23 (by decide)
                exact gz_wk (ihlp18 ty24 h23 bv (b + 1) cv uv hv bv9 (gms lp18m (by omega) (by omega)) G207 lp18u lp18c0 lp18c1 lp18r0 lp18r1 ⟨by omega, by omega⟩ ⟨by omega, by omega⟩ ⟨by omega, by omega⟩ ⟨by omega, by omega⟩ ⟨by omega, by omega⟩ (by omega) (by omega) (by omega) (by omega) (by omega) (by omega) (by omega) (by omega) (by omega) (by omega) (by omega) lp18k0 lp18k1 lp18k2 lp18k3 lp18k4 lp18k5 lp18k6 lp18k7 lp18k8 lp18k9 lp18k10 lp18k11 lp18k12 lp18k13 lp18k14 hsw203 hok204) (gLw.s (gLw.s gLw.z))
              · refine gy_ifF rfl (by decide) (by decide) (by omega) hc201 ?_
                refine gz_s 1 (pc' := 75) (L' := [some (.ref x), some (.int (zi b))]) (S' := [.ref x]) rfl ?_
                refine gs_gtk rfl (by decide) rfl sh23.1 lp18c0 rfl rfl lp18k4 ?_
                by_cases hc208 : (hg : Int) ≤ 0
                · refine gy_ifT (pc' := 92) rfl (by decide) (by decide) (by omega) hc208 ?_
                  refine gz_s 1 (pc' := 93) (L' := [some (.ref x), some (.int (zi b))]) (S' := [.ref x]) rfl ?_
                  refine gs_gtk rfl (by decide) rfl sh23.1 lp18c0 rfl rfl lp18k3 ?_
                  refine gy_ifF rfl (by decide) (by decide) ⟨by omega, by omega⟩ (by first | (simp [zc]; done) | (simp only [zc]; omega)) ?_
                  have htb209 := gTab.imp (Q := True) (fun _ => by omega) lp18k14
                  refine gy_s 4 (pc' := 104) (L' := [some (.ref x), some (.int (zi b))]) (S' := [.int ((zi b) * (zi 64)), .ref x]) (L2 := [some (.ref x), some (.int (zi b))]) (S2 := [.int (zi (b * 64)), .ref x]) rfl (by simp only [zi_add, zi_sub, zi_mul, zi_neg, zi_and1, zi_and7, zi_and15, zi_and31, zi_and255]) (by simp only [zi_add, zi_sub, zi_mul, zi_neg, zi_and1, zi_and7, zi_and15, zi_and31, zi_and255]) ?_
                  have hl210 : h23.2.2.2.1 bv = h23.2.2.2.1 bv := congrFun sh23.2.2.2.2.1 bv
                  refine gz_call rfl (by decide) rfl (by decide) (by decide) (gcal_of rfl rfl rfl (Nat.le_of_ble_eq_true rfl) (gJ.recv (G := gGG) sh23.1 lp18c0 rfl rfl)) (cw_putOthers _ sh23.1 x lp18c0 (b * 64) ⟨by omega, by omega⟩ sk lp18k0 lp18c1 bv lp18r0 lp18r1 cv lp18k8 ⟨by omega, by omega⟩ uv lp18k9 ⟨by omega, by omega⟩ hv lp18k10 ⟨by omega, by omega⟩ cg lp18k1 ⟨by omega, by omega⟩ fr lp18k2 ⟨by omega, by omega⟩ tt lp18k3 ⟨by omega, by omega⟩ lw lp18k5 ⟨by omega, by omega⟩ bs lp18k6 ⟨by omega, by omega⟩ cf ((ewK ec96 ec79 iv fr tt hg lw cf sg (b).toNat).2) ec79 (by omega) (by omega) (by omega) (by omega) (by omega) (by omega) (by omega) (by omega) lp18u lp18k15 lp18k16 htb209 lp18k12) (fun q211 _ wq211 => ?_)
                  obtain ⟨pq211, oq211, hq211⟩ := q211
                  obtain ⟨tyq211, xq211, cq211_0, ttq211, fq211_0, fq211_1, fq211_2, ecq211_0, tcq211_0, gq211, efq211_0, afq211_0, bfq211_0, efq211_1, afq211_1, bfq211_1, efq211_2, afq211_2, bfq211_2, uq211_0, uq211_1, uq211_2, uq211_3, uq211_4, uq211_5, uq211_6, uq211_7, uq211_8, yq211_0, yq211_1⟩ := wq211
                  dsimp only at uq211_5 uq211_6 uq211_7 uq211_8
                  refine ⟨_, gq211, ?_⟩
                  show gz gPP gGG gcn _ _ 107 [some (.ref x), some (.int (zi b))] [] hq211 _
                  have G212 : gSg [114] [] [56000, 56001, 56002, 56003, 71012, 71013, 71014, 114999] ty h tyq211 hq211 := gSg.tr (gSg.ss lp18G sh23 (by decide)) xq211 (by decide) (by decide) (fun x hx => by cases hx)
                  have t213 : tyq211 x = 71 := gSg.typ xq211 sh23.1 lp18c0 rfl
                  have t214 : tyq211 sk = 56 := gSg.typ xq211 sh23.1 lp18c1 rfl
                  have t215 : tyq211 bv = 114 := gSg.typ xq211 sh23.1 lp18r1 rfl
                  have hl216 : hq211.2.2.2.1 bv = h23.2.2.2.1 bv := gSg.len xq211 sh23.1 lp18r1 rfl
                  have s217 := gSg.at xq211 sh23.1 lp18c0 rfl (by decide) lp18k0
                  have s218 := gSg.at xq211 sh23.1 lp18c0 rfl (by decide) lp18k1
                  have s219 := gSg.at xq211 sh23.1 lp18c0 rfl (by decide) lp18k2
                  have s220 := gSg.at xq211 sh23.1 lp18c0 rfl (by decide) lp18k3
                  have s221 := gSg.at xq211 sh23.1 lp18c0 rfl (by decide) lp18k4
                  have s222 := gSg.at xq211 sh23.1 lp18c0 rfl (by decide) lp18k5
                  have s223 := gSg.at xq211 sh23.1 lp18c0 rfl (by decide) lp18k6
                  have s224 := gSg.at xq211 sh23.1 lp18c0 rfl (by decide) lp18k7
                  have s225 := gSg.at xq211 sh23.1 lp18c0 rfl (by decide) lp18k11
                  have pr226 := gRn.gr xq211 sh23.1 rfl (by decide) (by decide) lp18k12
                  have pr227 := gTab.gr xq211 sh23.1 rfl rfl (fun _ => rfl) (fun _ => rfl) (by decide) (by decide) (by decide) (by decide) lp18k13
                  have pr228 := gTab.gr xq211 sh23.1 rfl rfl (fun _ => rfl) (fun _ => rfl) (by decide) (by decide) (by decide) (by decide) htb209
                  have uq229 := gSg.uq xq211 lp18u (by decide)
                  have sS230 : gSs rT 1027 tyq211 [56000, 56001, 56002, 56003, 71012, 71013, 71014, 114999] hq211 hq211 := gSs.rf xq211.1
                  have htb231 := gTab.imp (Q := 0 < tt) (fun _ => trivial) pr228
                  have hK : ewK ec96 ec79 iv fr tt hg lw cf sg (b + 1).toNat = ((bv9, (ewK ec96 ec79 iv fr tt hg lw cf sg (b).toNat).2).1, eeOt (ewS ec79) eeN lw cf ((b * 64) + (if 1 ≤ fr then fr else 1)).toNat (tt - (if 1 ≤ fr then fr else 1) + 1).toNat ((ewK ec96 ec79 iv fr tt hg lw cf sg (b).toNat).2)) := by
                    rw [hbn]
                    exact ewK_s (P := (bv9, (ewK ec96 ec79 iv fr tt hg lw cf sg (b).toNat).2)) (F := (bv9, (ewK ec96 ec79 iv fr tt hg lw cf sg (b).toNat).2)) ((ewI_n (by omega) (by intro w; rcases w with ⟨w1, w2, w3⟩; first | omega | exact absurd w3 (by assumption))).trans (by rw [show bv9 = (ewK ec96 ec79 iv fr tt hg lw cf sg (b).toNat).1 by omega])) (ite2_2 (by omega) rfl) (ite3_2 (by omega) (by omega) (by rw [hi2]))
                  have hK1 : (ewK ec96 ec79 iv fr tt hg lw cf sg (b + 1).toNat).1 = (bv9, (ewK ec96 ec79 iv fr tt hg lw cf sg (b).toNat).2).1 := by rw [hK]
                  have hK2 : (bv9, (ewK ec96 ec79 iv fr tt hg lw cf sg (b).toNat).2).1 = bv9 := rfl
                  have hk232 : (ewK ec96 ec79 iv fr tt hg lw cf sg (b + 1).toNat).2 = eeOt (ewS ec79) eeN lw cf ((b * 64) + (if 1 ≤ fr then fr else 1)).toNat (tt - (if 1 ≤ fr then fr else 1) + 1).toNat ((ewK ec96 ec79 iv fr tt hg lw cf sg (b).toNat).2) := by rw [hK]
                  have hk232_1 : ((ewK ec96 ec79 iv fr tt hg lw cf sg (b + 1).toNat).2).1 = (eeOt (ewS ec79) eeN lw cf ((b * 64) + (if 1 ≤ fr then fr else 1)).toNat (tt - (if 1 ≤ fr then fr else 1) + 1).toNat ((ewK ec96 ec79 iv fr tt hg lw cf sg (b).toNat).2)).1 := by rw [hk232]
                  have hk232_21 : ((ewK ec96 ec79 iv fr tt hg lw cf sg (b + 1).toNat).2).2.1 = (eeOt (ewS ec79) eeN lw cf ((b * 64) + (if 1 ≤ fr then fr else 1)).toNat (tt - (if 1 ≤ fr then fr else 1) + 1).toNat ((ewK ec96 ec79 iv fr tt hg lw cf sg (b).toNat).2)).2.1 := by rw [hk232]
                  have hk232_221 : ((ewK ec96 ec79 iv fr tt hg lw cf sg (b + 1).toNat).2).2.2.1 = (eeOt (ewS ec79) eeN lw cf ((b * 64) + (if 1 ≤ fr then fr else 1)).toNat (tt - (if 1 ≤ fr then fr else 1) + 1).toNat ((ewK ec96 ec79 iv fr tt hg lw cf sg (b).toNat).2)).2.2.1 := by rw [hk232]
                  have hsw233 : gSW tyq211 cq211_0 ((ewK ec96 ec79 iv fr tt hg lw cf sg (b + 1).toNat).2) hq211 := by rw [hk232]; exact yq211_0
                  have hok234 : eeOk ((ewK ec96 ec79 iv fr tt hg lw cf sg (b + 1).toNat).2) := by rw [hk232]; exact yq211_1
                  have hoc235 := hok234.cur
                  refine gy_s 2 (pc' := 7) (L' := [some (.ref x), some (.int ((zi b) + zi 1))]) (S' := []) (L2 := [some (.ref x), some (.int (zi (b + 1)))]) (S2 := []) rfl (by simp only [zi_add, zi_sub, zi_mul, zi_neg, zi_and1, zi_and7, zi_and15, zi_and31, zi_and255]) (by simp only [zi_add, zi_sub, zi_mul, zi_neg, zi_and1, zi_and7, zi_and15, zi_and31, zi_and255]) ?_
                  have hl236 : 1024 ≤ hq211.2.2.2.1 bv ∧ hq211.2.2.2.1 bv ≤ 1000000 := gJ.rowl (G := gGG) sS230.1 t215 rfl
                  have hl237 : 1024 ≤ hq211.2.2.2.1 cq211_0 ∧ hq211.2.2.2.1 cq211_0 ≤ 1000000 := gJ.rowl (G := gGG) sS230.1 tcq211_0 rfl
                  have G238 : gSg [114] [] [56000, 56001, 56002, 56003, 71012, 71013, 71014, 114999] ty h tyq211 hq211 := gSg.ss G212 sS230 (by decide)
                  exact gz_wk (ihlp18 tyq211 hq211 cq211_0 (b + 1) fq211_0 fq211_1 fq211_2 bv9 (gms lp18m (by omega) (by omega)) G238 uq229 t213 t214 ecq211_0 tcq211_0 ⟨by omega, by omega⟩ ⟨by omega, by omega⟩ ⟨by omega, by omega⟩ ⟨by omega, by omega⟩ ⟨by omega, by omega⟩ (by omega) (by omega) (by omega) (by omega) (by omega) (by omega) (by omega) (by omega) (by omega) (by omega) (by omega) s217 s218 s219 s220 s221 s222 s223 s224 efq211_0 efq211_1 efq211_2 s225 pr226 pr227 htb231 hsw233 hok234) (gLw.s (gLw.s gLw.z))
                · refine gy_ifF rfl (by decide) (by decide) (by omega) hc208 ?_
                  have htb239 := gTab.imp (Q := True) (fun _ => by omega) lp18k14
                  refine gy_s 4 (pc' := 86) (L' := [some (.ref x), some (.int (zi b))]) (S' := [.int ((zi b) * (zi 64)), .ref x]) (L2 := [some (.ref x), some (.int (zi b))]) (S2 := [.int (zi (b * 64)), .ref x]) rfl (by simp only [zi_add, zi_sub, zi_mul, zi_neg, zi_and1, zi_and7, zi_and15, zi_and31, zi_and255]) (by simp only [zi_add, zi_sub, zi_mul, zi_neg, zi_and1, zi_and7, zi_and15, zi_and31, zi_and255]) ?_
                  have hl240 : h23.2.2.2.1 bv = h23.2.2.2.1 bv := congrFun sh23.2.2.2.2.1 bv
                  refine gz_call rfl (by decide) rfl (by decide) (by decide) (gcal_of rfl rfl rfl (Nat.le_of_ble_eq_true rfl) (gJ.recv (G := gGG) sh23.1 lp18c0 rfl rfl)) (cw_refineOthers _ sh23.1 x lp18c0 (b * 64) ⟨by omega, by omega⟩ sk lp18k0 lp18c1 bv lp18r0 lp18r1 cv lp18k8 ⟨by omega, by omega⟩ uv lp18k9 ⟨by omega, by omega⟩ hv lp18k10 ⟨by omega, by omega⟩ cg lp18k1 ⟨by omega, by omega⟩ fr lp18k2 ⟨by omega, by omega⟩ tt lp18k3 ⟨by omega, by omega⟩ lw lp18k5 ⟨by omega, by omega⟩ bs lp18k6 ⟨by omega, by omega⟩ cf ((ewK ec96 ec79 iv fr tt hg lw cf sg (b).toNat).2) ec79 (by omega) (by omega) (by omega) (by omega) (by omega) (by omega) (by omega) lp18u lp18k15 lp18k16 htb239 lp18k12) (fun q241 _ wq241 => ?_)
                  obtain ⟨pq241, oq241, hq241⟩ := q241
                  obtain ⟨tyq241, xq241, cq241_0, ttq241, fq241_0, fq241_1, fq241_2, ecq241_0, tcq241_0, gq241, efq241_0, afq241_0, bfq241_0, efq241_1, afq241_1, bfq241_1, efq241_2, afq241_2, bfq241_2, uq241_0, uq241_1, uq241_2, uq241_3, uq241_4, uq241_5, uq241_6, uq241_7, uq241_8, yq241_0, yq241_1⟩ := wq241
                  dsimp only at uq241_5 uq241_6 uq241_7 uq241_8
                  refine ⟨_, gq241, ?_⟩
                  show gz gPP gGG gcn _ _ 89 [some (.ref x), some (.int (zi b))] [] hq241 _
                  have G242 : gSg [114] [] [56000, 56001, 56002, 56003, 71012, 71013, 71014, 114999] ty h tyq241 hq241 := gSg.tr (gSg.ss lp18G sh23 (by decide)) xq241 (by decide) (by decide) (fun x hx => by cases hx)
                  have t243 : tyq241 x = 71 := gSg.typ xq241 sh23.1 lp18c0 rfl
                  have t244 : tyq241 sk = 56 := gSg.typ xq241 sh23.1 lp18c1 rfl
                  have t245 : tyq241 bv = 114 := gSg.typ xq241 sh23.1 lp18r1 rfl
                  have hl246 : hq241.2.2.2.1 bv = h23.2.2.2.1 bv := gSg.len xq241 sh23.1 lp18r1 rfl
                  have s247 := gSg.at xq241 sh23.1 lp18c0 rfl (by decide) lp18k0
                  have s248 := gSg.at xq241 sh23.1 lp18c0 rfl (by decide) lp18k1
                  have s249 := gSg.at xq241 sh23.1 lp18c0 rfl (by decide) lp18k2
                  have s250 := gSg.at xq241 sh23.1 lp18c0 rfl (by decide) lp18k3
                  have s251 := gSg.at xq241 sh23.1 lp18c0 rfl (by decide) lp18k4
                  have s252 := gSg.at xq241 sh23.1 lp18c0 rfl (by decide) lp18k5
                  have s253 := gSg.at xq241 sh23.1 lp18c0 rfl (by decide) lp18k6
                  have s254 := gSg.at xq241 sh23.1 lp18c0 rfl (by decide) lp18k7
                  have s255 := gSg.at xq241 sh23.1 lp18c0 rfl (by decide) lp18k11
                  have pr256 := gRn.gr xq241 sh23.1 rfl (by decide) (by decide) lp18k12
                  have pr257 := gTab.gr xq241 sh23.1 rfl rfl (fun _ => rfl) (fun _ => rfl) (by decide) (by decide) (by decide) (by decide) lp18k13
                  have pr258 := gTab.gr xq241 sh23.1 rfl rfl (fun _ => rfl) (fun _ => rfl) (by decide) (by decide) (by decide) (by decide) htb239
                  have uq259 := gSg.uq xq241 lp18u (by decide)
                  have sS260 : gSs rT 1027 tyq241 [56000, 56001, 56002, 56003, 71012, 71013, 71014, 114999] hq241 hq241 := gSs.rf xq241.1
                  refine gz_s 1 (pc' := 107) (L' := [some (.ref x), some (.int (zi b))]) (S' := []) rfl ?_
                  have htb261 := gTab.imp (Q := 0 < tt) (fun _ => trivial) pr258
                  have hK : ewK ec96 ec79 iv fr tt hg lw cf sg (b + 1).toNat = ((bv9, (ewK ec96 ec79 iv fr tt hg lw cf sg (b).toNat).2).1, eeRz (ewS ec79) eeN lw cf (b * 64) fr tt ((ewK ec96 ec79 iv fr tt hg lw cf sg (b).toNat).2)) := by
                    rw [hbn]
                    exact ewK_s (P := (bv9, (ewK ec96 ec79 iv fr tt hg lw cf sg (b).toNat).2)) (F := (bv9, (ewK ec96 ec79 iv fr tt hg lw cf sg (b).toNat).2)) ((ewI_n (by omega) (by intro w; rcases w with ⟨w1, w2, w3⟩; first | omega | exact absurd w3 (by assumption))).trans (by rw [show bv9 = (ewK ec96 ec79 iv fr tt hg lw cf sg (b).toNat).1 by omega])) (ite2_2 (by omega) rfl) (ite3_1 ⟨by omega, by omega⟩ (by unfold eeRz; rw [hi1]))
                  have hK1 : (ewK ec96 ec79 iv fr tt hg lw cf sg (b + 1).toNat).1 = (bv9, (ewK ec96 ec79 iv fr tt hg lw cf sg (b).toNat).2).1 := by rw [hK]
                  have hK2 : (bv9, (ewK ec96 ec79 iv fr tt hg lw cf sg (b).toNat).2).1 = bv9 := rfl
                  have hk262 : (ewK ec96 ec79 iv fr tt hg lw cf sg (b + 1).toNat).2 = eeRz (ewS ec79) eeN lw cf (b * 64) fr tt ((ewK ec96 ec79 iv fr tt hg lw cf sg (b).toNat).2) := by rw [hK]
                  have hk262_1 : ((ewK ec96 ec79 iv fr tt hg lw cf sg (b + 1).toNat).2).1 = (eeRz (ewS ec79) eeN lw cf (b * 64) fr tt ((ewK ec96 ec79 iv fr tt hg lw cf sg (b).toNat).2)).1 := by rw [hk262]
                  have hk262_21 : ((ewK ec96 ec79 iv fr tt hg lw cf sg (b + 1).toNat).2).2.1 = (eeRz (ewS ec79) eeN lw cf (b * 64) fr tt ((ewK ec96 ec79 iv fr tt hg lw cf sg (b).toNat).2)).2.1 := by rw [hk262]
                  have hk262_221 : ((ewK ec96 ec79 iv fr tt hg lw cf sg (b + 1).toNat).2).2.2.1 = (eeRz (ewS ec79) eeN lw cf (b * 64) fr tt ((ewK ec96 ec79 iv fr tt hg lw cf sg (b).toNat).2)).2.2.1 := by rw [hk262]
                  have hsw263 : gSW tyq241 cq241_0 ((ewK ec96 ec79 iv fr tt hg lw cf sg (b + 1).toNat).2) hq241 := by rw [hk262]; exact yq241_0
                  have hok264 : eeOk ((ewK ec96 ec79 iv fr tt hg lw cf sg (b + 1).toNat).2) := by rw [hk262]; exact yq241_1
                  have hoc265 := hok264.cur
                  refine gy_s 2 (pc' := 7) (L' := [some (.ref x), some (.int ((zi b) + zi 1))]) (S' := []) (L2 := [some (.ref x), some (.int (zi (b + 1)))]) (S2 := []) rfl (by simp only [zi_add, zi_sub, zi_mul, zi_neg, zi_and1, zi_and7, zi_and15, zi_and31, zi_and255]) (by simp only [zi_add, zi_sub, zi_mul, zi_neg, zi_and1, zi_and7, zi_and15, zi_and31, zi_and255]) ?_
                  have hl266 : 1024 ≤ hq241.2.2.2.1 bv ∧ hq241.2.2.2.1 bv ≤ 1000000 := gJ.rowl (G := gGG) sS260.1 t245 rfl
                  have hl267 : 1024 ≤ hq241.2.2.2.1 cq241_0 ∧ hq241.2.2.2.1 cq241_0 ≤ 1000000 := gJ.rowl (G := gGG) sS260.1 tcq241_0 rfl
                  have G268 : gSg [114] [] [56000, 56001, 56002, 56003, 71012, 71013, 71014, 114999] ty h tyq241 hq241 := gSg.ss G242 sS260 (by decide)
                  exact gz_wk (ihlp18 tyq241 hq241 cq241_0 (b + 1) fq241_0 fq241_1 fq241_2 bv9 (gms lp18m (by omega) (by omega)) G268 uq259 t243 t244 ecq241_0 tcq241_0 ⟨by omega, by omega⟩ ⟨by omega, by omega⟩ ⟨by omega, by omega⟩ ⟨by omega, by omega⟩ ⟨by omega, by omega⟩ (by omega) (by omega) (by omega) (by omega) (by omega) (by omega) (by omega) (by omega) (by omega) (by omega) (by omega) s247 s248 s249 s250 s251 s252 s253 s254 efq241_0 efq241_1 efq241_2 s255 pr256 pr257 htb261 hsw263 hok264) (gLw.s (gLw.s gLw.z))
            · refine gy_ifF rfl (by decide) (by decide) (by omega) hc200 ?_
              have htb269 := gTab.imp (Q := hg = 0) (fun w => ⟨by omega, w⟩) lp18k13
              refine gy_s 4 (pc' := 64) (L' := [some (.ref x), some (.int (zi b))]) (S' := [.int ((zi b) * (zi 64)), .ref x]) (L2 := [some (.ref x), some (.int (zi b))]) (S2 := [.int (zi (b * 64)), .ref x]) rfl (by simp only [zi_add, zi_sub, zi_mul, zi_neg, zi_and1, zi_and7, zi_and15, zi_and31, zi_and255]) (by simp only [zi_add, zi_sub, zi_mul, zi_neg, zi_and1, zi_and7, zi_and15, zi_and31, zi_and255]) ?_
              have hl270 : h23.2.2.2.1 bv = h23.2.2.2.1 bv := congrFun sh23.2.2.2.2.1 bv
              refine gz_call rfl (by decide) rfl (by decide) (by decide) (gcal_of rfl rfl rfl (Nat.le_of_ble_eq_true rfl) (gJ.recv (G := gGG) sh23.1 lp18c0 rfl rfl)) (cw_putFirst _ sh23.1 x lp18c0 (b * 64) ⟨by omega, by omega⟩ sk lp18k0 lp18c1 bv lp18r0 lp18r1 cv lp18k8 ⟨by omega, by omega⟩ uv lp18k9 ⟨by omega, by omega⟩ hv lp18k10 ⟨by omega, by omega⟩ cg lp18k1 ⟨by omega, by omega⟩ lw lp18k5 ⟨by omega, by omega⟩ hg lp18k4 ⟨by omega, by omega⟩ bs lp18k6 ⟨by omega, by omega⟩ bv9 lp18k11 ⟨by omega, by omega⟩ cf ((ewK ec96 ec79 iv fr tt hg lw cf sg (b).toNat).2) ec96 (by omega) (by omega) (by omega) (by omega) (by omega) (by omega) lp18u lp18k15 lp18k16 lp18k12 htb269) (fun q271 _ wq271 => ?_)
              obtain ⟨pq271, oq271, hq271⟩ := q271
              obtain ⟨tyq271, xq271, cq271_0, ttq271, fq271_0, fq271_1, fq271_2, fq271_3, ecq271_0, tcq271_0, gq271, efq271_0, afq271_0, bfq271_0, efq271_1, afq271_1, bfq271_1, efq271_2, afq271_2, bfq271_2, efq271_3, afq271_3, bfq271_3, uq271_0, uq271_1, uq271_2, uq271_3, uq271_4, uq271_5, uq271_6, uq271_7, uq271_8, uq271_9, yq271_0, yq271_1⟩ := wq271
              dsimp only at uq271_5 uq271_6 uq271_7 uq271_9
              refine ⟨_, gq271, ?_⟩
              show gz gPP gGG gcn _ _ 67 [some (.ref x), some (.int (zi b))] [] hq271 _
              have G272 : gSg [114] [] [56000, 56001, 56002, 56003, 71012, 71013, 71014, 114999] ty h tyq271 hq271 := gSg.tr (gSg.ss lp18G sh23 (by decide)) xq271 (by decide) (by decide) (fun x hx => by cases hx)
              have t273 : tyq271 x = 71 := gSg.typ xq271 sh23.1 lp18c0 rfl
              have t274 : tyq271 sk = 56 := gSg.typ xq271 sh23.1 lp18c1 rfl
              have t275 : tyq271 bv = 114 := gSg.typ xq271 sh23.1 lp18r1 rfl
              have hl276 : hq271.2.2.2.1 bv = h23.2.2.2.1 bv := gSg.len xq271 sh23.1 lp18r1 rfl
              have s277 := gSg.at xq271 sh23.1 lp18c0 rfl (by decide) lp18k0
              have s278 := gSg.at xq271 sh23.1 lp18c0 rfl (by decide) lp18k1
              have s279 := gSg.at xq271 sh23.1 lp18c0 rfl (by decide) lp18k2
              have s280 := gSg.at xq271 sh23.1 lp18c0 rfl (by decide) lp18k3
              have s281 := gSg.at xq271 sh23.1 lp18c0 rfl (by decide) lp18k4
              have s282 := gSg.at xq271 sh23.1 lp18c0 rfl (by decide) lp18k5
              have s283 := gSg.at xq271 sh23.1 lp18c0 rfl (by decide) lp18k6
              have s284 := gSg.at xq271 sh23.1 lp18c0 rfl (by decide) lp18k7
              have pr285 := gRn.gr xq271 sh23.1 rfl (by decide) (by decide) lp18k12
              have pr286 := gTab.gr xq271 sh23.1 rfl rfl (fun _ => rfl) (fun _ => rfl) (by decide) (by decide) (by decide) (by decide) htb269
              have pr287 := gTab.gr xq271 sh23.1 rfl rfl (fun _ => rfl) (fun _ => rfl) (by decide) (by decide) (by decide) (by decide) lp18k14
              have uq288 := gSg.uq xq271 lp18u (by decide)
              have sS289 : gSs rT 1027 tyq271 [56000, 56001, 56002, 56003, 71012, 71013, 71014, 114999] hq271 hq271 := gSs.rf xq271.1
              have htb290 := gTab.imp (Q := fr = 0 ∧ hg = 0) (fun w => w.2) pr286
              refine gz_s 1 (pc' := 68) (L' := [some (.ref x), some (.int (zi b))]) (S' := [.ref x]) rfl ?_
              refine gs_gtk rfl (by decide) rfl sS289.1 t273 rfl rfl s280 ?_
              by_cases hc291 : (tt : Int) ≤ 0
              · refine gy_ifT (pc' := 92) rfl (by decide) (by decide) (by omega) hc291 ?_
                refine gz_s 1 (pc' := 93) (L' := [some (.ref x), some (.int (zi b))]) (S' := [.ref x]) rfl ?_
                refine gs_gtk rfl (by decide) rfl sS289.1 t273 rfl rfl s280 ?_
                refine gy_ifT (pc' := 107) rfl (by decide) (by decide) ⟨by omega, by omega⟩ (by first | (simp [zc]; done) | (simp only [zc]; omega)) ?_
                have hK : ewK ec96 ec79 iv fr tt hg lw cf sg (b + 1).toNat = ((eeFi (ewS ec96) eeN lw hg (cf ((b * 64)).toNat) bv9 ((ewK ec96 ec79 iv fr tt hg lw cf sg (b).toNat).2)).1, (eeFi (ewS ec96) eeN lw hg (cf ((b * 64)).toNat) bv9 ((ewK ec96 ec79 iv fr tt hg lw cf sg (b).toNat).2)).2) := by
                  rw [hbn]
                  exact ewK_s (P := (bv9, (ewK ec96 ec79 iv fr tt hg lw cf sg (b).toNat).2)) (F := (eeFi (ewS ec96) eeN lw hg (cf ((b * 64)).toNat) bv9 ((ewK ec96 ec79 iv fr tt hg lw cf sg (b).toNat).2))) ((ewI_n (by omega) (by intro w; rcases w with ⟨w1, w2, w3⟩; first | omega | exact absurd w3 (by assumption))).trans (by rw [show bv9 = (ewK ec96 ec79 iv fr tt hg lw cf sg (b).toNat).1 by omega])) (ite2_1 (by omega) (by rw [hi0])) (ite3_3 (by omega) (by omega) rfl)
                have hK1 : (ewK ec96 ec79 iv fr tt hg lw cf sg (b + 1).toNat).1 = (eeFi (ewS ec96) eeN lw hg (cf ((b * 64)).toNat) bv9 ((ewK ec96 ec79 iv fr tt hg lw cf sg (b).toNat).2)).1 := by rw [hK]
                have hk292 : (ewK ec96 ec79 iv fr tt hg lw cf sg (b + 1).toNat).2 = (eeFi (ewS ec96) eeN lw hg (cf ((b * 64)).toNat) bv9 ((ewK ec96 ec79 iv fr tt hg lw cf sg (b).toNat).2)).2 := by rw [hK]
                have hk292_1 : ((ewK ec96 ec79 iv fr tt hg lw cf sg (b + 1).toNat).2).1 = ((eeFi (ewS ec96) eeN lw hg (cf ((b * 64)).toNat) bv9 ((ewK ec96 ec79 iv fr tt hg lw cf sg (b).toNat).2)).2).1 := by rw [hk292]
                have hk292_21 : ((ewK ec96 ec79 iv fr tt hg lw cf sg (b + 1).toNat).2).2.1 = ((eeFi (ewS ec96) eeN lw hg (cf ((b * 64)).toNat) bv9 ((ewK ec96 ec79 iv fr tt hg lw cf sg (b).toNat).2)).2).2.1 := by rw [hk292]
                have hk292_221 : ((ewK ec96 ec79 iv fr tt hg lw cf sg (b + 1).toNat).2).2.2.1 = ((eeFi (ewS ec96) eeN lw hg (cf ((b * 64)).toNat) bv9 ((ewK ec96 ec79 iv fr tt hg lw cf sg (b).toNat).2)).2).2.2.1 := by rw [hk292]
                have hsw293 : gSW tyq271 cq271_0 ((ewK ec96 ec79 iv fr tt hg lw cf sg (b + 1).toNat).2) hq271 := by rw [hk292]; exact yq271_0
                have hok294 : eeOk ((ewK ec96 ec79 iv fr tt hg lw cf sg (b + 1).toNat).2) := by rw [hk292]; exact yq271_1
                have hoc295 := hok294.cur
                refine gy_s 2 (pc' := 7) (L' := [some (.ref x), some (.int ((zi b) + zi 1))]) (S' := []) (L2 := [some (.ref x), some (.int (zi (b + 1)))]) (S2 := []) rfl (by simp only [zi_add, zi_sub, zi_mul, zi_neg, zi_and1, zi_and7, zi_and15, zi_and31, zi_and255]) (by simp only [zi_add, zi_sub, zi_mul, zi_neg, zi_and1, zi_and7, zi_and15, zi_and31, zi_and255]) ?_
                have hl296 : 1024 ≤ hq271.2.2.2.1 bv ∧ hq271.2.2.2.1 bv ≤ 1000000 := gJ.rowl (G := gGG) sS289.1 t275 rfl
                have hl297 : 1024 ≤ hq271.2.2.2.1 cq271_0 ∧ hq271.2.2.2.1 cq271_0 ≤ 1000000 := gJ.rowl (G := gGG) sS289.1 tcq271_0 rfl
                have G298 : gSg [114] [] [56000, 56001, 56002, 56003, 71012, 71013, 71014, 114999] ty h tyq271 hq271 := gSg.ss G272 sS289 (by decide)
                exact gz_wk (ihlp18 tyq271 hq271 cq271_0 (b + 1) fq271_0 fq271_1 fq271_2 fq271_3 (gms lp18m (by omega) (by omega)) G298 uq288 t273 t274 ecq271_0 tcq271_0 ⟨by omega, by omega⟩ ⟨by omega, by omega⟩ ⟨by omega, by omega⟩ ⟨by omega, by omega⟩ ⟨by omega, by omega⟩ (by omega) (by omega) (by omega) (by omega) (by omega) (by omega) (by omega) (by omega) (by omega) (by omega) (by omega) s277 s278 s279 s280 s281 s282 s283 s284 efq271_0 efq271_1 efq271_2 efq271_3 pr285 htb290 pr287 hsw293 hok294) (gLw.s (gLw.s gLw.z))
              · refine gy_ifF rfl (by decide) (by decide) (by omega) hc291 ?_
                refine gz_s 1 (pc' := 75) (L' := [some (.ref x), some (.int (zi b))]) (S' := [.ref x]) rfl ?_
                refine gs_gtk rfl (by decide) rfl sS289.1 t273 rfl rfl s281 ?_
                by_cases hc299 : (hg : Int) ≤ 0
                · refine gy_ifT (pc' := 92) rfl (by decide) (by decide) (by omega) hc299 ?_
                  refine gz_s 1 (pc' := 93) (L' := [some (.ref x), some (.int (zi b))]) (S' := [.ref x]) rfl ?_
                  refine gs_gtk rfl (by decide) rfl sS289.1 t273 rfl rfl s280 ?_
                  refine gy_ifF rfl (by decide) (by decide) ⟨by omega, by omega⟩ (by first | (simp [zc]; done) | (simp only [zc]; omega)) ?_
                  have htb300 := gTab.imp (Q := True) (fun _ => by omega) pr287
                  refine gy_s 4 (pc' := 104) (L' := [some (.ref x), some (.int (zi b))]) (S' := [.int ((zi b) * (zi 64)), .ref x]) (L2 := [some (.ref x), some (.int (zi b))]) (S2 := [.int (zi (b * 64)), .ref x]) rfl (by simp only [zi_add, zi_sub, zi_mul, zi_neg, zi_and1, zi_and7, zi_and15, zi_and31, zi_and255]) (by simp only [zi_add, zi_sub, zi_mul, zi_neg, zi_and1, zi_and7, zi_and15, zi_and31, zi_and255]) ?_
                  have hl301 : hq271.2.2.2.1 cq271_0 = hq271.2.2.2.1 cq271_0 := congrFun sS289.2.2.2.2.1 cq271_0
                  refine gz_call rfl (by decide) rfl (by decide) (by decide) (gcal_of rfl rfl rfl (Nat.le_of_ble_eq_true rfl) (gJ.recv (G := gGG) sS289.1 t273 rfl rfl)) (cw_putOthers _ sS289.1 x t273 (b * 64) ⟨by omega, by omega⟩ sk s277 t274 cq271_0 ecq271_0 tcq271_0 fq271_0 efq271_0 ⟨by omega, by omega⟩ fq271_1 efq271_1 ⟨by omega, by omega⟩ fq271_2 efq271_2 ⟨by omega, by omega⟩ cg s278 ⟨by omega, by omega⟩ fr s279 ⟨by omega, by omega⟩ tt s280 ⟨by omega, by omega⟩ lw s282 ⟨by omega, by omega⟩ bs s283 ⟨by omega, by omega⟩ cf ((eeFi (ewS ec96) eeN lw hg (cf ((b * 64)).toNat) bv9 ((ewK ec96 ec79 iv fr tt hg lw cf sg (b).toNat).2)).2) ec79 (by omega) (by omega) (by omega) (by omega) (by omega) (by omega) (by omega) (by omega) uq288 yq271_0 yq271_1 htb300 pr285) (fun q302 _ wq302 => ?_)
                  obtain ⟨pq302, oq302, hq302⟩ := q302
                  obtain ⟨tyq302, xq302, cq302_0, ttq302, fq302_0, fq302_1, fq302_2, ecq302_0, tcq302_0, gq302, efq302_0, afq302_0, bfq302_0, efq302_1, afq302_1, bfq302_1, efq302_2, afq302_2, bfq302_2, uq302_0, uq302_1, uq302_2, uq302_3, uq302_4, uq302_5, uq302_6, uq302_7, uq302_8, yq302_0, yq302_1⟩ := wq302
                  dsimp only at uq302_5 uq302_6 uq302_7 uq302_8
                  refine ⟨_, gq302, ?_⟩
                  show gz gPP gGG gcn _ _ 107 [some (.ref x), some (.int (zi b))] [] hq302 _
                  have G303 : gSg [114] [] [56000, 56001, 56002, 56003, 71012, 71013, 71014, 114999] ty h tyq302 hq302 := gSg.tr (gSg.ss G272 sS289 (by decide)) xq302 (by decide) (by decide) (fun x hx => by cases hx)
                  have t304 : tyq302 x = 71 := gSg.typ xq302 sS289.1 t273 rfl
                  have t305 : tyq302 sk = 56 := gSg.typ xq302 sS289.1 t274 rfl
                  have t306 : tyq302 bv = 114 := gSg.typ xq302 sS289.1 t275 rfl
                  have hl307 : hq302.2.2.2.1 bv = hq271.2.2.2.1 bv := gSg.len xq302 sS289.1 t275 rfl
                  have t308 : tyq302 cq271_0 = 114 := gSg.typ xq302 sS289.1 tcq271_0 rfl
                  have hl309 : hq302.2.2.2.1 cq271_0 = hq271.2.2.2.1 cq271_0 := gSg.len xq302 sS289.1 tcq271_0 rfl
                  have s310 := gSg.at xq302 sS289.1 t273 rfl (by decide) s277
                  have s311 := gSg.at xq302 sS289.1 t273 rfl (by decide) s278
                  have s312 := gSg.at xq302 sS289.1 t273 rfl (by decide) s279
                  have s313 := gSg.at xq302 sS289.1 t273 rfl (by decide) s280
                  have s314 := gSg.at xq302 sS289.1 t273 rfl (by decide) s281
                  have s315 := gSg.at xq302 sS289.1 t273 rfl (by decide) s282
                  have s316 := gSg.at xq302 sS289.1 t273 rfl (by decide) s283
                  have s317 := gSg.at xq302 sS289.1 t273 rfl (by decide) s284
                  have s318 := gSg.at xq302 sS289.1 t273 rfl (by decide) efq271_3
                  have pr319 := gRn.gr xq302 sS289.1 rfl (by decide) (by decide) pr285
                  have pr320 := gTab.gr xq302 sS289.1 rfl rfl (fun _ => rfl) (fun _ => rfl) (by decide) (by decide) (by decide) (by decide) htb290
                  have pr321 := gTab.gr xq302 sS289.1 rfl rfl (fun _ => rfl) (fun _ => rfl) (by decide) (by decide) (by decide) (by decide) htb300
                  have uq322 := gSg.uq xq302 uq288 (by decide)
                  have sS323 : gSs rT 1027 tyq302 [56000, 56001, 56002, 56003, 71012, 71013, 71014, 114999] hq302 hq302 := gSs.rf xq302.1
                  have htb324 := gTab.imp (Q := 0 < tt) (fun _ => trivial) pr321
                  have hK : ewK ec96 ec79 iv fr tt hg lw cf sg (b + 1).toNat = ((eeFi (ewS ec96) eeN lw hg (cf ((b * 64)).toNat) bv9 ((ewK ec96 ec79 iv fr tt hg lw cf sg (b).toNat).2)).1, eeOt (ewS ec79) eeN lw cf ((b * 64) + (if 1 ≤ fr then fr else 1)).toNat (tt - (if 1 ≤ fr then fr else 1) + 1).toNat ((eeFi (ewS ec96) eeN lw hg (cf ((b * 64)).toNat) bv9 ((ewK ec96 ec79 iv fr tt hg lw cf sg (b).toNat).2)).2)) := by
                    rw [hbn]
                    exact ewK_s (P := (bv9, (ewK ec96 ec79 iv fr tt hg lw cf sg (b).toNat).2)) (F := (eeFi (ewS ec96) eeN lw hg (cf ((b * 64)).toNat) bv9 ((ewK ec96 ec79 iv fr tt hg lw cf sg (b).toNat).2))) ((ewI_n (by omega) (by intro w; rcases w with ⟨w1, w2, w3⟩; first | omega | exact absurd w3 (by assumption))).trans (by rw [show bv9 = (ewK ec96 ec79 iv fr tt hg lw cf sg (b).toNat).1 by omega])) (ite2_1 (by omega) (by rw [hi0])) (ite3_2 (by omega) (by omega) (by rw [hi2]))
                  have hK1 : (ewK ec96 ec79 iv fr tt hg lw cf sg (b + 1).toNat).1 = (eeFi (ewS ec96) eeN lw hg (cf ((b * 64)).toNat) bv9 ((ewK ec96 ec79 iv fr tt hg lw cf sg (b).toNat).2)).1 := by rw [hK]
                  have hk325 : (ewK ec96 ec79 iv fr tt hg lw cf sg (b + 1).toNat).2 = eeOt (ewS ec79) eeN lw cf ((b * 64) + (if 1 ≤ fr then fr else 1)).toNat (tt - (if 1 ≤ fr then fr else 1) + 1).toNat ((eeFi (ewS ec96) eeN lw hg (cf ((b * 64)).toNat) bv9 ((ewK ec96 ec79 iv fr tt hg lw cf sg (b).toNat).2)).2) := by rw [hK]
                  have hk325_1 : ((ewK ec96 ec79 iv fr tt hg lw cf sg (b + 1).toNat).2).1 = (eeOt (ewS ec79) eeN lw cf ((b * 64) + (if 1 ≤ fr then fr else 1)).toNat (tt - (if 1 ≤ fr then fr else 1) + 1).toNat ((eeFi (ewS ec96) eeN lw hg (cf ((b * 64)).toNat) bv9 ((ewK ec96 ec79 iv fr tt hg lw cf sg (b).toNat).2)).2)).1 := by rw [hk325]
                  have hk325_21 : ((ewK ec96 ec79 iv fr tt hg lw cf sg (b + 1).toNat).2).2.1 = (eeOt (ewS ec79) eeN lw cf ((b * 64) + (if 1 ≤ fr then fr else 1)).toNat (tt - (if 1 ≤ fr then fr else 1) + 1).toNat ((eeFi (ewS ec96) eeN lw hg (cf ((b * 64)).toNat) bv9 ((ewK ec96 ec79 iv fr tt hg lw cf sg (b).toNat).2)).2)).2.1 := by rw [hk325]
                  have hk325_221 : ((ewK ec96 ec79 iv fr tt hg lw cf sg (b + 1).toNat).2).2.2.1 = (eeOt (ewS ec79) eeN lw cf ((b * 64) + (if 1 ≤ fr then fr else 1)).toNat (tt - (if 1 ≤ fr then fr else 1) + 1).toNat ((eeFi (ewS ec96) eeN lw hg (cf ((b * 64)).toNat) bv9 ((ewK ec96 ec79 iv fr tt hg lw cf sg (b).toNat).2)).2)).2.2.1 := by rw [hk325]
                  have hsw326 : gSW tyq302 cq302_0 ((ewK ec96 ec79 iv fr tt hg lw cf sg (b + 1).toNat).2) hq302 := by rw [hk325]; exact yq302_0
                  have hok327 : eeOk ((ewK ec96 ec79 iv fr tt hg lw cf sg (b + 1).toNat).2) := by rw [hk325]; exact yq302_1
                  have hoc328 := hok327.cur
                  refine gy_s 2 (pc' := 7) (L' := [some (.ref x), some (.int ((zi b) + zi 1))]) (S' := []) (L2 := [some (.ref x), some (.int (zi (b + 1)))]) (S2 := []) rfl (by simp only [zi_add, zi_sub, zi_mul, zi_neg, zi_and1, zi_and7, zi_and15, zi_and31, zi_and255]) (by simp only [zi_add, zi_sub, zi_mul, zi_neg, zi_and1, zi_and7, zi_and15, zi_and31, zi_and255]) ?_
                  have hl329 : 1024 ≤ hq302.2.2.2.1 bv ∧ hq302.2.2.2.1 bv ≤ 1000000 := gJ.rowl (G := gGG) sS323.1 t306 rfl
                  have hl330 : 1024 ≤ hq302.2.2.2.1 cq271_0 ∧ hq302.2.2.2.1 cq271_0 ≤ 1000000 := gJ.rowl (G := gGG) sS323.1 t308 rfl
                  have hl331 : 1024 ≤ hq302.2.2.2.1 cq302_0 ∧ hq302.2.2.2.1 cq302_0 ≤ 1000000 := gJ.rowl (G := gGG) sS323.1 tcq302_0 rfl
                  have G332 : gSg [114] [] [56000, 56001, 56002, 56003, 71012, 71013, 71014, 114999] ty h tyq302 hq302 := gSg.ss G303 sS323 (by decide)
                  exact gz_wk (ihlp18 tyq302 hq302 cq302_0 (b + 1) fq302_0 fq302_1 fq302_2 fq271_3 (gms lp18m (by omega) (by omega)) G332 uq322 t304 t305 ecq302_0 tcq302_0 ⟨by omega, by omega⟩ ⟨by omega, by omega⟩ ⟨by omega, by omega⟩ ⟨by omega, by omega⟩ ⟨by omega, by omega⟩ (by omega) (by omega) (by omega) (by omega) (by omega) (by omega) (by omega) (by omega) (by omega) (by omega) (by omega) s310 s311 s312 s313 s314 s315 s316 s317 efq302_0 efq302_1 efq302_2 s318 pr319 pr320 htb324 hsw326 hok327) (gLw.s (gLw.s gLw.z))
                · refine gy_ifF rfl (by decide) (by decide) (by omega) hc299 ?_
                  have htb333 := gTab.imp (Q := True) (fun _ => by omega) pr287
                  refine gy_s 4 (pc' := 86) (L' := [some (.ref x), some (.int (zi b))]) (S' := [.int ((zi b) * (zi 64)), .ref x]) (L2 := [some (.ref x), some (.int (zi b))]) (S2 := [.int (zi (b * 64)), .ref x]) rfl (by simp only [zi_add, zi_sub, zi_mul, zi_neg, zi_and1, zi_and7, zi_and15, zi_and31, zi_and255]) (by simp only [zi_add, zi_sub, zi_mul, zi_neg, zi_and1, zi_and7, zi_and15, zi_and31, zi_and255]) ?_
                  have hl334 : hq271.2.2.2.1 cq271_0 = hq271.2.2.2.1 cq271_0 := congrFun sS289.2.2.2.2.1 cq271_0
                  refine gz_call rfl (by decide) rfl (by decide) (by decide) (gcal_of rfl rfl rfl (Nat.le_of_ble_eq_true rfl) (gJ.recv (G := gGG) sS289.1 t273 rfl rfl)) (cw_refineOthers _ sS289.1 x t273 (b * 64) ⟨by omega, by omega⟩ sk s277 t274 cq271_0 ecq271_0 tcq271_0 fq271_0 efq271_0 ⟨by omega, by omega⟩ fq271_1 efq271_1 ⟨by omega, by omega⟩ fq271_2 efq271_2 ⟨by omega, by omega⟩ cg s278 ⟨by omega, by omega⟩ fr s279 ⟨by omega, by omega⟩ tt s280 ⟨by omega, by omega⟩ lw s282 ⟨by omega, by omega⟩ bs s283 ⟨by omega, by omega⟩ cf ((eeFi (ewS ec96) eeN lw hg (cf ((b * 64)).toNat) bv9 ((ewK ec96 ec79 iv fr tt hg lw cf sg (b).toNat).2)).2) ec79 (by omega) (by omega) (by omega) (by omega) (by omega) (by omega) (by omega) uq288 yq271_0 yq271_1 htb333 pr285) (fun q335 _ wq335 => ?_)
                  obtain ⟨pq335, oq335, hq335⟩ := q335
                  obtain ⟨tyq335, xq335, cq335_0, ttq335, fq335_0, fq335_1, fq335_2, ecq335_0, tcq335_0, gq335, efq335_0, afq335_0, bfq335_0, efq335_1, afq335_1, bfq335_1, efq335_2, afq335_2, bfq335_2, uq335_0, uq335_1, uq335_2, uq335_3, uq335_4, uq335_5, uq335_6, uq335_7, uq335_8, yq335_0, yq335_1⟩ := wq335
                  dsimp only at uq335_5 uq335_6 uq335_7 uq335_8
                  refine ⟨_, gq335, ?_⟩
                  show gz gPP gGG gcn _ _ 89 [some (.ref x), some (.int (zi b))] [] hq335 _
                  have G336 : gSg [114] [] [56000, 56001, 56002, 56003, 71012, 71013, 71014, 114999] ty h tyq335 hq335 := gSg.tr (gSg.ss G272 sS289 (by decide)) xq335 (by decide) (by decide) (fun x hx => by cases hx)
                  have t337 : tyq335 x = 71 := gSg.typ xq335 sS289.1 t273 rfl
                  have t338 : tyq335 sk = 56 := gSg.typ xq335 sS289.1 t274 rfl
                  have t339 : tyq335 bv = 114 := gSg.typ xq335 sS289.1 t275 rfl
                  have hl340 : hq335.2.2.2.1 bv = hq271.2.2.2.1 bv := gSg.len xq335 sS289.1 t275 rfl
                  have t341 : tyq335 cq271_0 = 114 := gSg.typ xq335 sS289.1 tcq271_0 rfl
                  have hl342 : hq335.2.2.2.1 cq271_0 = hq271.2.2.2.1 cq271_0 := gSg.len xq335 sS289.1 tcq271_0 rfl
                  have s343 := gSg.at xq335 sS289.1 t273 rfl (by decide) s277
                  have s344 := gSg.at xq335 sS289.1 t273 rfl (by decide) s278
                  have s345 := gSg.at xq335 sS289.1 t273 rfl (by decide) s279
                  have s346 := gSg.at xq335 sS289.1 t273 rfl (by decide) s280
                  have s347 := gSg.at xq335 sS289.1 t273 rfl (by decide) s281
                  have s348 := gSg.at xq335 sS289.1 t273 rfl (by decide) s282
                  have s349 := gSg.at xq335 sS289.1 t273 rfl (by decide) s283
                  have s350 := gSg.at xq335 sS289.1 t273 rfl (by decide) s284
                  have s351 := gSg.at xq335 sS289.1 t273 rfl (by decide) efq271_3
                  have pr352 := gRn.gr xq335 sS289.1 rfl (by decide) (by decide) pr285
                  have pr353 := gTab.gr xq335 sS289.1 rfl rfl (fun _ => rfl) (fun _ => rfl) (by decide) (by decide) (by decide) (by decide) htb290
                  have pr354 := gTab.gr xq335 sS289.1 rfl rfl (fun _ => rfl) (fun _ => rfl) (by decide) (by decide) (by decide) (by decide) htb333
                  have uq355 := gSg.uq xq335 uq288 (by decide)
                  have sS356 : gSs rT 1027 tyq335 [56000, 56001, 56002, 56003, 71012, 71013, 71014, 114999] hq335 hq335 := gSs.rf xq335.1
                  refine gz_s 1 (pc' := 107) (L' := [some (.ref x), some (.int (zi b))]) (S' := []) rfl ?_
                  have htb357 := gTab.imp (Q := 0 < tt) (fun _ => trivial) pr354
                  have hK : ewK ec96 ec79 iv fr tt hg lw cf sg (b + 1).toNat = ((eeFi (ewS ec96) eeN lw hg (cf ((b * 64)).toNat) bv9 ((ewK ec96 ec79 iv fr tt hg lw cf sg (b).toNat).2)).1, eeRz (ewS ec79) eeN lw cf (b * 64) fr tt ((eeFi (ewS ec96) eeN lw hg (cf ((b * 64)).toNat) bv9 ((ewK ec96 ec79 iv fr tt hg lw cf sg (b).toNat).2)).2)) := by
                    rw [hbn]
                    exact ewK_s (P := (bv9, (ewK ec96 ec79 iv fr tt hg lw cf sg (b).toNat).2)) (F := (eeFi (ewS ec96) eeN lw hg (cf ((b * 64)).toNat) bv9 ((ewK ec96 ec79 iv fr tt hg lw cf sg (b).toNat).2))) ((ewI_n (by omega) (by intro w; rcases w with ⟨w1, w2, w3⟩; first | omega | exact absurd w3 (by assumption))).trans (by rw [show bv9 = (ewK ec96 ec79 iv fr tt hg lw cf sg (b).toNat).1 by omega])) (ite2_1 (by omega) (by rw [hi0])) (ite3_1 ⟨by omega, by omega⟩ (by unfold eeRz; rw [hi1]))
                  have hK1 : (ewK ec96 ec79 iv fr tt hg lw cf sg (b + 1).toNat).1 = (eeFi (ewS ec96) eeN lw hg (cf ((b * 64)).toNat) bv9 ((ewK ec96 ec79 iv fr tt hg lw cf sg (b).toNat).2)).1 := by rw [hK]
                  have hk358 : (ewK ec96 ec79 iv fr tt hg lw cf sg (b + 1).toNat).2 = eeRz (ewS ec79) eeN lw cf (b * 64) fr tt ((eeFi (ewS ec96) eeN lw hg (cf ((b * 64)).toNat) bv9 ((ewK ec96 ec79 iv fr tt hg lw cf sg (b).toNat).2)).2) := by rw [hK]
                  have hk358_1 : ((ewK ec96 ec79 iv fr tt hg lw cf sg (b + 1).toNat).2).1 = (eeRz (ewS ec79) eeN lw cf (b * 64) fr tt ((eeFi (ewS ec96) eeN lw hg (cf ((b * 64)).toNat) bv9 ((ewK ec96 ec79 iv fr tt hg lw cf sg (b).toNat).2)).2)).1 := by rw [hk358]
                  have hk358_21 : ((ewK ec96 ec79 iv fr tt hg lw cf sg (b + 1).toNat).2).2.1 = (eeRz (ewS ec79) eeN lw cf (b * 64) fr tt ((eeFi (ewS ec96) eeN lw hg (cf ((b * 64)).toNat) bv9 ((ewK ec96 ec79 iv fr tt hg lw cf sg (b).toNat).2)).2)).2.1 := by rw [hk358]
                  have hk358_221 : ((ewK ec96 ec79 iv fr tt hg lw cf sg (b + 1).toNat).2).2.2.1 = (eeRz (ewS ec79) eeN lw cf (b * 64) fr tt ((eeFi (ewS ec96) eeN lw hg (cf ((b * 64)).toNat) bv9 ((ewK ec96 ec79 iv fr tt hg lw cf sg (b).toNat).2)).2)).2.2.1 := by rw [hk358]
                  have hsw359 : gSW tyq335 cq335_0 ((ewK ec96 ec79 iv fr tt hg lw cf sg (b + 1).toNat).2) hq335 := by rw [hk358]; exact yq335_0
                  have hok360 : eeOk ((ewK ec96 ec79 iv fr tt hg lw cf sg (b + 1).toNat).2) := by rw [hk358]; exact yq335_1
                  have hoc361 := hok360.cur
                  refine gy_s 2 (pc' := 7) (L' := [some (.ref x), some (.int ((zi b) + zi 1))]) (S' := []) (L2 := [some (.ref x), some (.int (zi (b + 1)))]) (S2 := []) rfl (by simp only [zi_add, zi_sub, zi_mul, zi_neg, zi_and1, zi_and7, zi_and15, zi_and31, zi_and255]) (by simp only [zi_add, zi_sub, zi_mul, zi_neg, zi_and1, zi_and7, zi_and15, zi_and31, zi_and255]) ?_
                  have hl362 : 1024 ≤ hq335.2.2.2.1 bv ∧ hq335.2.2.2.1 bv ≤ 1000000 := gJ.rowl (G := gGG) sS356.1 t339 rfl
                  have hl363 : 1024 ≤ hq335.2.2.2.1 cq271_0 ∧ hq335.2.2.2.1 cq271_0 ≤ 1000000 := gJ.rowl (G := gGG) sS356.1 t341 rfl
                  have hl364 : 1024 ≤ hq335.2.2.2.1 cq335_0 ∧ hq335.2.2.2.1 cq335_0 ≤ 1000000 := gJ.rowl (G := gGG) sS356.1 tcq335_0 rfl
                  have G365 : gSg [114] [] [56000, 56001, 56002, 56003, 71012, 71013, 71014, 114999] ty h tyq335 hq335 := gSg.ss G336 sS356 (by decide)
                  exact gz_wk (ihlp18 tyq335 hq335 cq335_0 (b + 1) fq335_0 fq335_1 fq335_2 fq271_3 (gms lp18m (by omega) (by omega)) G365 uq355 t337 t338 ecq335_0 tcq335_0 ⟨by omega, by omega⟩ ⟨by omega, by omega⟩ ⟨by omega, by omega⟩ ⟨by omega, by omega⟩ ⟨by omega, by omega⟩ (by omega) (by omega) (by omega) (by omega) (by omega) (by omega) (by omega) (by omega) (by omega) (by omega) (by omega) s343 s344 s345 s346 s347 s348 s349 s350 efq335_0 efq335_1 efq335_2 s351 pr352 pr353 htb357 hsw359 hok360) (gLw.s (gLw.s gLw.z))
          · refine gy_ifF rfl (by decide) (by decide) (by omega) hc199 ?_
            refine gz_s 2 (pc' := 28) (L' := [some (.ref x), some (.int (zi b))]) (S' := [.ref x, .int (zi b)]) rfl ?_
            refine gs_gtk rfl (by decide) rfl sh23.1 lp18c0 rfl rfl lp18k7 ?_
            refine gy_rem rfl (by decide) (by omega) (by omega) ?_
            have hd366 := zm_f (x := b) (y := iv) (by omega) (by omega)
            by_cases hc367 : ¬ (b % iv : Int) = 0
            · refine gy_ifT (pc' := 52) rfl (by decide) (by decide) (by omega) hc367 ?_
              refine gz_s 1 (pc' := 53) (L' := [some (.ref x), some (.int (zi b))]) (S' := [.ref x]) rfl ?_
              refine gs_gtk rfl (by decide) rfl sh23.1 lp18c0 rfl rfl lp18k2 ?_
              by_cases hc368 : ¬ (fr : Int) = 0
              · refine gy_ifT (pc' := 67) rfl (by decide) (by decide) (by omega) hc368 ?_
                refine gz_s 1 (pc' := 68) (L' := [some (.ref x), some (.int (zi b))]) (S' := [.ref x]) rfl ?_
                refine gs_gtk rfl (by decide) rfl sh23.1 lp18c0 rfl rfl lp18k3 ?_
                by_cases hc369 : (tt : Int) ≤ 0
                · refine gy_ifT (pc' := 92) rfl (by decide) (by decide) (by omega) hc369 ?_
                  refine gz_s 1 (pc' := 93) (L' := [some (.ref x), some (.int (zi b))]) (S' := [.ref x]) rfl ?_
                  refine gs_gtk rfl (by decide) rfl sh23.1 lp18c0 rfl rfl lp18k3 ?_
                  refine gy_ifT (pc' := 107) rfl (by decide) (by decide) ⟨by omega, by omega⟩ (by first | (simp [zc]; done) | (simp only [zc]; omega)) ?_
                  have hK : ewK ec96 ec79 iv fr tt hg lw cf sg (b + 1).toNat = ((bv9, (ewK ec96 ec79 iv fr tt hg lw cf sg (b).toNat).2).1, (ewK ec96 ec79 iv fr tt hg lw cf sg (b).toNat).2) := by
                    rw [hbn]
                    exact ewK_s (P := (bv9, (ewK ec96 ec79 iv fr tt hg lw cf sg (b).toNat).2)) (F := (bv9, (ewK ec96 ec79 iv fr tt hg lw cf sg (b).toNat).2)) ((ewI_n (by omega) (by intro w; rcases w with ⟨w1, w2, w3⟩; first | omega | exact absurd w3 (by assumption))).trans (by rw [show bv9 = (ewK ec96 ec79 iv fr tt hg lw cf sg (b).toNat).1 by omega])) (ite2_2 (by omega) rfl) (ite3_3 (by omega) (by omega) rfl)
                  have hK1 : (ewK ec96 ec79 iv fr tt hg lw cf sg (b + 1).toNat).1 = (bv9, (ewK ec96 ec79 iv fr tt hg lw cf sg (b).toNat).2).1 := by rw [hK]
                  have hK2 : (bv9, (ewK ec96 ec79 iv fr tt hg lw cf sg (b).toNat).2).1 = bv9 := rfl
                  have hk370 : (ewK ec96 ec79 iv fr tt hg lw cf sg (b + 1).toNat).2 = (ewK ec96 ec79 iv fr tt hg lw cf sg (b).toNat).2 := by rw [hK]
                  have hk370_1 : ((ewK ec96 ec79 iv fr tt hg lw cf sg (b + 1).toNat).2).1 = ((ewK ec96 ec79 iv fr tt hg lw cf sg (b).toNat).2).1 := by rw [hk370]
                  have hk370_21 : ((ewK ec96 ec79 iv fr tt hg lw cf sg (b + 1).toNat).2).2.1 = ((ewK ec96 ec79 iv fr tt hg lw cf sg (b).toNat).2).2.1 := by rw [hk370]
                  have hk370_221 : ((ewK ec96 ec79 iv fr tt hg lw cf sg (b + 1).toNat).2).2.2.1 = ((ewK ec96 ec79 iv fr tt hg lw cf sg (b).toNat).2).2.2.1 := by rw [hk370]
                  have hsw371 : gSW ty24 bv ((ewK ec96 ec79 iv fr tt hg lw cf sg (b + 1).toNat).2) h23 := by rw [hk370]; exact lp18k15
                  have hok372 : eeOk ((ewK ec96 ec79 iv fr tt hg lw cf sg (b + 1).toNat).2) := by rw [hk370]; exact lp18k16
                  have hoc373 := hok372.cur
                  refine gy_s 2 (pc' := 7) (L' := [some (.ref x), some (.int ((zi b) + zi 1))]) (S' := []) (L2 := [some (.ref x), some (.int (zi (b + 1)))]) (S2 := []) rfl (by simp only [zi_add, zi_sub, zi_mul, zi_neg, zi_and1, zi_and7, zi_and15, zi_and31, zi_and255]) (by simp only [zi_add, zi_sub, zi_mul, zi_neg, zi_and1, zi_and7, zi_and15, zi_and31, zi_and255]) ?_
                  have hl374 : 1024 ≤ h23.2.2.2.1 bv ∧ h23.2.2.2.1 bv ≤ 1000000 := gJ.rowl (G := gGG) sh23.1 lp18r1 rfl
                  have G375 : gSg [114] [] [56000, 56001, 56002, 56003, 71012, 71013, 71014, 114999] ty h ty24 h23 := gSg.ss lp18G sh23 (by decide)
                  exact gz_wk (ihlp18 ty24 h23 bv (b + 1) cv uv hv bv9 (gms lp18m (by omega) (by omega)) G375 lp18u lp18c0 lp18c1 lp18r0 lp18r1 ⟨by omega, by omega⟩ ⟨by omega, by omega⟩ ⟨by omega, by omega⟩ ⟨by omega, by omega⟩ ⟨by omega, by omega⟩ (by omega) (by omega) (by omega) (by omega) (by omega) (by omega) (by omega) (by omega) (by omega) (by omega) (by omega) lp18k0 lp18k1 lp18k2 lp18k3 lp18k4 lp18k5 lp18k6 lp18k7 lp18k8 lp18k9 lp18k10 lp18k11 lp18k12 lp18k13 lp18k14 hsw371 hok372) (gLw.s (gLw.s gLw.z))
                · refine gy_ifF rfl (by decide) (by decide) (by omega) hc369 ?_
                  refine gz_s 1 (pc' := 75) (L' := [some (.ref x), some (.int (zi b))]) (S' := [.ref x]) rfl ?_
                  refine gs_gtk rfl (by decide) rfl sh23.1 lp18c0 rfl rfl lp18k4 ?_
                  by_cases hc376 : (hg : Int) ≤ 0
                  · refine gy_ifT (pc' := 92) rfl (by decide) (by decide) (by omega) hc376 ?_
                    refine gz_s 1 (pc' := 93) (L' := [some (.ref x), some (.int (zi b))]) (S' := [.ref x]) rfl ?_
                    refine gs_gtk rfl (by decide) rfl sh23.1 lp18c0 rfl rfl lp18k3 ?_
                    refine gy_ifF rfl (by decide) (by decide) ⟨by omega, by omega⟩ (by first | (simp [zc]; done) | (simp only [zc]; omega)) ?_
                    have htb377 := gTab.imp (Q := True) (fun _ => by omega) lp18k14
                    refine gy_s 4 (pc' := 104) (L' := [some (.ref x), some (.int (zi b))]) (S' := [.int ((zi b) * (zi 64)), .ref x]) (L2 := [some (.ref x), some (.int (zi b))]) (S2 := [.int (zi (b * 64)), .ref x]) rfl (by simp only [zi_add, zi_sub, zi_mul, zi_neg, zi_and1, zi_and7, zi_and15, zi_and31, zi_and255]) (by simp only [zi_add, zi_sub, zi_mul, zi_neg, zi_and1, zi_and7, zi_and15, zi_and31, zi_and255]) ?_
                    have hl378 : h23.2.2.2.1 bv = h23.2.2.2.1 bv := congrFun sh23.2.2.2.2.1 bv
                    refine gz_call rfl (by decide) rfl (by decide) (by decide) (gcal_of rfl rfl rfl (Nat.le_of_ble_eq_true rfl) (gJ.recv (G := gGG) sh23.1 lp18c0 rfl rfl)) (cw_putOthers _ sh23.1 x lp18c0 (b * 64) ⟨by omega, by omega⟩ sk lp18k0 lp18c1 bv lp18r0 lp18r1 cv lp18k8 ⟨by omega, by omega⟩ uv lp18k9 ⟨by omega, by omega⟩ hv lp18k10 ⟨by omega, by omega⟩ cg lp18k1 ⟨by omega, by omega⟩ fr lp18k2 ⟨by omega, by omega⟩ tt lp18k3 ⟨by omega, by omega⟩ lw lp18k5 ⟨by omega, by omega⟩ bs lp18k6 ⟨by omega, by omega⟩ cf ((ewK ec96 ec79 iv fr tt hg lw cf sg (b).toNat).2) ec79 (by omega) (by omega) (by omega) (by omega) (by omega) (by omega) (by omega) (by omega) lp18u lp18k15 lp18k16 htb377 lp18k12) (fun q379 _ wq379 => ?_)
                    obtain ⟨pq379, oq379, hq379⟩ := q379
                    obtain ⟨tyq379, xq379, cq379_0, ttq379, fq379_0, fq379_1, fq379_2, ecq379_0, tcq379_0, gq379, efq379_0, afq379_0, bfq379_0, efq379_1, afq379_1, bfq379_1, efq379_2, afq379_2, bfq379_2, uq379_0, uq379_1, uq379_2, uq379_3, uq379_4, uq379_5, uq379_6, uq379_7, uq379_8, yq379_0, yq379_1⟩ := wq379
                    dsimp only at uq379_5 uq379_6 uq379_7 uq379_8
                    refine ⟨_, gq379, ?_⟩
                    show gz gPP gGG gcn _ _ 107 [some (.ref x), some (.int (zi b))] [] hq379 _
                    have G380 : gSg [114] [] [56000, 56001, 56002, 56003, 71012, 71013, 71014, 114999] ty h tyq379 hq379 := gSg.tr (gSg.ss lp18G sh23 (by decide)) xq379 (by decide) (by decide) (fun x hx => by cases hx)
                    have t381 : tyq379 x = 71 := gSg.typ xq379 sh23.1 lp18c0 rfl
                    have t382 : tyq379 sk = 56 := gSg.typ xq379 sh23.1 lp18c1 rfl
                    have t383 : tyq379 bv = 114 := gSg.typ xq379 sh23.1 lp18r1 rfl
                    have hl384 : hq379.2.2.2.1 bv = h23.2.2.2.1 bv := gSg.len xq379 sh23.1 lp18r1 rfl
                    have s385 := gSg.at xq379 sh23.1 lp18c0 rfl (by decide) lp18k0
                    have s386 := gSg.at xq379 sh23.1 lp18c0 rfl (by decide) lp18k1
                    have s387 := gSg.at xq379 sh23.1 lp18c0 rfl (by decide) lp18k2
                    have s388 := gSg.at xq379 sh23.1 lp18c0 rfl (by decide) lp18k3
                    have s389 := gSg.at xq379 sh23.1 lp18c0 rfl (by decide) lp18k4
                    have s390 := gSg.at xq379 sh23.1 lp18c0 rfl (by decide) lp18k5
                    have s391 := gSg.at xq379 sh23.1 lp18c0 rfl (by decide) lp18k6
                    have s392 := gSg.at xq379 sh23.1 lp18c0 rfl (by decide) lp18k7
                    have s393 := gSg.at xq379 sh23.1 lp18c0 rfl (by decide) lp18k11
                    have pr394 := gRn.gr xq379 sh23.1 rfl (by decide) (by decide) lp18k12
                    have pr395 := gTab.gr xq379 sh23.1 rfl rfl (fun _ => rfl) (fun _ => rfl) (by decide) (by decide) (by decide) (by decide) lp18k13
                    have pr396 := gTab.gr xq379 sh23.1 rfl rfl (fun _ => rfl) (fun _ => rfl) (by decide) (by decide) (by decide) (by decide) htb377
                    have uq397 := gSg.uq xq379 lp18u (by decide)
                    have sS398 : gSs rT 1027 tyq379 [56000, 56001, 56002, 56003, 71012, 71013, 71014, 114999] hq379 hq379 := gSs.rf xq379.1
                    have htb399 := gTab.imp (Q := 0 < tt) (fun _ => trivial) pr396
                    have hK : ewK ec96 ec79 iv fr tt hg lw cf sg (b + 1).toNat = ((bv9, (ewK ec96 ec79 iv fr tt hg lw cf sg (b).toNat).2).1, eeOt (ewS ec79) eeN lw cf ((b * 64) + (if 1 ≤ fr then fr else 1)).toNat (tt - (if 1 ≤ fr then fr else 1) + 1).toNat ((ewK ec96 ec79 iv fr tt hg lw cf sg (b).toNat).2)) := by
                      rw [hbn]
                      exact ewK_s (P := (bv9, (ewK ec96 ec79 iv fr tt hg lw cf sg (b).toNat).2)) (F := (bv9, (ewK ec96 ec79 iv fr tt hg lw cf sg (b).toNat).2)) ((ewI_n (by omega) (by intro w; rcases w with ⟨w1, w2, w3⟩; first | omega | exact absurd w3 (by assumption))).trans (by rw [show bv9 = (ewK ec96 ec79 iv fr tt hg lw cf sg (b).toNat).1 by omega])) (ite2_2 (by omega) rfl) (ite3_2 (by omega) (by omega) (by rw [hi2]))
                    have hK1 : (ewK ec96 ec79 iv fr tt hg lw cf sg (b + 1).toNat).1 = (bv9, (ewK ec96 ec79 iv fr tt hg lw cf sg (b).toNat).2).1 := by rw [hK]
                    have hK2 : (bv9, (ewK ec96 ec79 iv fr tt hg lw cf sg (b).toNat).2).1 = bv9 := rfl
                    have hk400 : (ewK ec96 ec79 iv fr tt hg lw cf sg (b + 1).toNat).2 = eeOt (ewS ec79) eeN lw cf ((b * 64) + (if 1 ≤ fr then fr else 1)).toNat (tt - (if 1 ≤ fr then fr else 1) + 1).toNat ((ewK ec96 ec79 iv fr tt hg lw cf sg (b).toNat).2) := by rw [hK]
                    have hk400_1 : ((ewK ec96 ec79 iv fr tt hg lw cf sg (b + 1).toNat).2).1 = (eeOt (ewS ec79) eeN lw cf ((b * 64) + (if 1 ≤ fr then fr else 1)).toNat (tt - (if 1 ≤ fr then fr else 1) + 1).toNat ((ewK ec96 ec79 iv fr tt hg lw cf sg (b).toNat).2)).1 := by rw [hk400]
                    have hk400_21 : ((ewK ec96 ec79 iv fr tt hg lw cf sg (b + 1).toNat).2).2.1 = (eeOt (ewS ec79) eeN lw cf ((b * 64) + (if 1 ≤ fr then fr else 1)).toNat (tt - (if 1 ≤ fr then fr else 1) + 1).toNat ((ewK ec96 ec79 iv fr tt hg lw cf sg (b).toNat).2)).2.1 := by rw [hk400]
                    have hk400_221 : ((ewK ec96 ec79 iv fr tt hg lw cf sg (b + 1).toNat).2).2.2.1 = (eeOt (ewS ec79) eeN lw cf ((b * 64) + (if 1 ≤ fr then fr else 1)).toNat (tt - (if 1 ≤ fr then fr else 1) + 1).toNat ((ewK ec96 ec79 iv fr tt hg lw cf sg (b).toNat).2)).2.2.1 := by rw [hk400]
                    have hsw401 : gSW tyq379 cq379_0 ((ewK ec96 ec79 iv fr tt hg lw cf sg (b + 1).toNat).2) hq379 := by rw [hk400]; exact yq379_0
                    have hok402 : eeOk ((ewK ec96 ec79 iv fr tt hg lw cf sg (b + 1).toNat).2) := by rw [hk400]; exact yq379_1
                    have hoc403 := hok402.cur
                    refine gy_s 2 (pc' := 7) (L' := [some (.ref x), some (.int ((zi b) + zi 1))]) (S' := []) (L2 := [some (.ref x), some (.int (zi (b + 1)))]) (S2 := []) rfl (by simp only [zi_add, zi_sub, zi_mul, zi_neg, zi_and1, zi_and7, zi_and15, zi_and31, zi_and255]) (by simp only [zi_add, zi_sub, zi_mul, zi_neg, zi_and1, zi_and7, zi_and15, zi_and31, zi_and255]) ?_
                    have hl404 : 1024 ≤ hq379.2.2.2.1 bv ∧ hq379.2.2.2.1 bv ≤ 1000000 := gJ.rowl (G := gGG) sS398.1 t383 rfl
                    have hl405 : 1024 ≤ hq379.2.2.2.1 cq379_0 ∧ hq379.2.2.2.1 cq379_0 ≤ 1000000 := gJ.rowl (G := gGG) sS398.1 tcq379_0 rfl
                    have G406 : gSg [114] [] [56000, 56001, 56002, 56003, 71012, 71013, 71014, 114999] ty h tyq379 hq379 := gSg.ss G380 sS398 (by decide)
                    exact gz_wk (ihlp18 tyq379 hq379 cq379_0 (b + 1) fq379_0 fq379_1 fq379_2 bv9 (gms lp18m (by omega) (by omega)) G406 uq397 t381 t382 ecq379_0 tcq379_0 ⟨by omega, by omega⟩ ⟨by omega, by omega⟩ ⟨by omega, by omega⟩ ⟨by omega, by omega⟩ ⟨by omega, by omega⟩ (by omega) (by omega) (by omega) (by omega) (by omega) (by omega) (by omega) (by omega) (by omega) (by omega) (by omega) s385 s386 s387 s388 s389 s390 s391 s392 efq379_0 efq379_1 efq379_2 s393 pr394 pr395 htb399 hsw401 hok402) (gLw.s (gLw.s gLw.z))
                  · refine gy_ifF rfl (by decide) (by decide) (by omega) hc376 ?_
                    have htb407 := gTab.imp (Q := True) (fun _ => by omega) lp18k14
                    refine gy_s 4 (pc' := 86) (L' := [some (.ref x), some (.int (zi b))]) (S' := [.int ((zi b) * (zi 64)), .ref x]) (L2 := [some (.ref x), some (.int (zi b))]) (S2 := [.int (zi (b * 64)), .ref x]) rfl (by simp only [zi_add, zi_sub, zi_mul, zi_neg, zi_and1, zi_and7, zi_and15, zi_and31, zi_and255]) (by simp only [zi_add, zi_sub, zi_mul, zi_neg, zi_and1, zi_and7, zi_and15, zi_and31, zi_and255]) ?_
                    have hl408 : h23.2.2.2.1 bv = h23.2.2.2.1 bv := congrFun sh23.2.2.2.2.1 bv
                    refine gz_call rfl (by decide) rfl (by decide) (by decide) (gcal_of rfl rfl rfl (Nat.le_of_ble_eq_true rfl) (gJ.recv (G := gGG) sh23.1 lp18c0 rfl rfl)) (cw_refineOthers _ sh23.1 x lp18c0 (b * 64) ⟨by omega, by omega⟩ sk lp18k0 lp18c1 bv lp18r0 lp18r1 cv lp18k8 ⟨by omega, by omega⟩ uv lp18k9 ⟨by omega, by omega⟩ hv lp18k10 ⟨by omega, by omega⟩ cg lp18k1 ⟨by omega, by omega⟩ fr lp18k2 ⟨by omega, by omega⟩ tt lp18k3 ⟨by omega, by omega⟩ lw lp18k5 ⟨by omega, by omega⟩ bs lp18k6 ⟨by omega, by omega⟩ cf ((ewK ec96 ec79 iv fr tt hg lw cf sg (b).toNat).2) ec79 (by omega) (by omega) (by omega) (by omega) (by omega) (by omega) (by omega) lp18u lp18k15 lp18k16 htb407 lp18k12) (fun q409 _ wq409 => ?_)
                    obtain ⟨pq409, oq409, hq409⟩ := q409
                    obtain ⟨tyq409, xq409, cq409_0, ttq409, fq409_0, fq409_1, fq409_2, ecq409_0, tcq409_0, gq409, efq409_0, afq409_0, bfq409_0, efq409_1, afq409_1, bfq409_1, efq409_2, afq409_2, bfq409_2, uq409_0, uq409_1, uq409_2, uq409_3, uq409_4, uq409_5, uq409_6, uq409_7, uq409_8, yq409_0, yq409_1⟩ := wq409
                    dsimp only at uq409_5 uq409_6 uq409_7 uq409_8
                    refine ⟨_, gq409, ?_⟩
                    show gz gPP gGG gcn _ _ 89 [some (.ref x), some (.int (zi b))] [] hq409 _
                    have G410 : gSg [114] [] [56000, 56001, 56002, 56003, 71012, 71013, 71014, 114999] ty h tyq409 hq409 := gSg.tr (gSg.ss lp18G sh23 (by decide)) xq409 (by decide) (by decide) (fun x hx => by cases hx)
                    have t411 : tyq409 x = 71 := gSg.typ xq409 sh23.1 lp18c0 rfl
                    have t412 : tyq409 sk = 56 := gSg.typ xq409 sh23.1 lp18c1 rfl
                    have t413 : tyq409 bv = 114 := gSg.typ xq409 sh23.1 lp18r1 rfl
                    have hl414 : hq409.2.2.2.1 bv = h23.2.2.2.1 bv := gSg.len xq409 sh23.1 lp18r1 rfl
                    have s415 := gSg.at xq409 sh23.1 lp18c0 rfl (by decide) lp18k0
                    have s416 := gSg.at xq409 sh23.1 lp18c0 rfl (by decide) lp18k1
                    have s417 := gSg.at xq409 sh23.1 lp18c0 rfl (by decide) lp18k2
                    have s418 := gSg.at xq409 sh23.1 lp18c0 rfl (by decide) lp18k3
                    have s419 := gSg.at xq409 sh23.1 lp18c0 rfl (by decide) lp18k4
                    have s420 := gSg.at xq409 sh23.1 lp18c0 rfl (by decide) lp18k5
                    have s421 := gSg.at xq409 sh23.1 lp18c0 rfl (by decide) lp18k6
                    have s422 := gSg.at xq409 sh23.1 lp18c0 rfl (by decide) lp18k7
                    have s423 := gSg.at xq409 sh23.1 lp18c0 rfl (by decide) lp18k11
                    have pr424 := gRn.gr xq409 sh23.1 rfl (by decide) (by decide) lp18k12
                    have pr425 := gTab.gr xq409 sh23.1 rfl rfl (fun _ => rfl) (fun _ => rfl) (by decide) (by decide) (by decide) (by decide) lp18k13
                    have pr426 := gTab.gr xq409 sh23.1 rfl rfl (fun _ => rfl) (fun _ => rfl) (by decide) (by decide) (by decide) (by decide) htb407
                    have uq427 := gSg.uq xq409 lp18u (by decide)
                    have sS428 : gSs rT 1027 tyq409 [56000, 56001, 56002, 56003, 71012, 71013, 71014, 114999] hq409 hq409 := gSs.rf xq409.1
                    refine gz_s 1 (pc' := 107) (L' := [some (.ref x), some (.int (zi b))]) (S' := []) rfl ?_
                    have htb429 := gTab.imp (Q := 0 < tt) (fun _ => trivial) pr426
                    have hK : ewK ec96 ec79 iv fr tt hg lw cf sg (b + 1).toNat = ((bv9, (ewK ec96 ec79 iv fr tt hg lw cf sg (b).toNat).2).1, eeRz (ewS ec79) eeN lw cf (b * 64) fr tt ((ewK ec96 ec79 iv fr tt hg lw cf sg (b).toNat).2)) := by
                      rw [hbn]
                      exact ewK_s (P := (bv9, (ewK ec96 ec79 iv fr tt hg lw cf sg (b).toNat).2)) (F := (bv9, (ewK ec96 ec79 iv fr tt hg lw cf sg (b).toNat).2)) ((ewI_n (by omega) (by intro w; rcases w with ⟨w1, w2, w3⟩; first | omega | exact absurd w3 (by assumption))).trans (by rw [show bv9 = (ewK ec96 ec79 iv fr tt hg lw cf sg (b).toNat).1 by omega])) (ite2_2 (by omega) rfl) (ite3_1 ⟨by omega, by omega⟩ (by unfold eeRz; rw [hi1]))
                    have hK1 : (ewK ec96 ec79 iv fr tt hg lw cf sg (b + 1).toNat).1 = (bv9, (ewK ec96 ec79 iv fr tt hg lw cf sg (b).toNat).2).1 := by rw [hK]
                    have hK2 : (bv9, (ewK ec96 ec79 iv fr tt hg lw cf sg (b).toNat).2).1 = bv9 := rfl
                    have hk430 : (ewK ec96 ec79 iv fr tt hg lw cf sg (b + 1).toNat).2 = eeRz (ewS ec79) eeN lw cf (b * 64) fr tt ((ewK ec96 ec79 iv fr tt hg lw cf sg (b).toNat).2) := by rw [hK]
                    have hk430_1 : ((ewK ec96 ec79 iv fr tt hg lw cf sg (b + 1).toNat).2).1 = (eeRz (ewS ec79) eeN lw cf (b * 64) fr tt ((ewK ec96 ec79 iv fr tt hg lw cf sg (b).toNat).2)).1 := by rw [hk430]
                    have hk430_21 : ((ewK ec96 ec79 iv fr tt hg lw cf sg (b + 1).toNat).2).2.1 = (eeRz (ewS ec79) eeN lw cf (b * 64) fr tt ((ewK ec96 ec79 iv fr tt hg lw cf sg (b).toNat).2)).2.1 := by rw [hk430]
                    have hk430_221 : ((ewK ec96 ec79 iv fr tt hg lw cf sg (b + 1).toNat).2).2.2.1 = (eeRz (ewS ec79) eeN lw cf (b * 64) fr tt ((ewK ec96 ec79 iv fr tt hg lw cf sg (b).toNat).2)).2.2.1 := by rw [hk430]
                    have hsw431 : gSW tyq409 cq409_0 ((ewK ec96 ec79 iv fr tt hg lw cf sg (b + 1).toNat).2) hq409 := by rw [hk430]; exact yq409_0
                    have hok432 : eeOk ((ewK ec96 ec79 iv fr tt hg lw cf sg (b + 1).toNat).2) := by rw [hk430]; exact yq409_1
                    have hoc433 := hok432.cur
                    refine gy_s 2 (pc' := 7) (L' := [some (.ref x), some (.int ((zi b) + zi 1))]) (S' := []) (L2 := [some (.ref x), some (.int (zi (b + 1)))]) (S2 := []) rfl (by simp only [zi_add, zi_sub, zi_mul, zi_neg, zi_and1, zi_and7, zi_and15, zi_and31, zi_and255]) (by simp only [zi_add, zi_sub, zi_mul, zi_neg, zi_and1, zi_and7, zi_and15, zi_and31, zi_and255]) ?_
                    have hl434 : 1024 ≤ hq409.2.2.2.1 bv ∧ hq409.2.2.2.1 bv ≤ 1000000 := gJ.rowl (G := gGG) sS428.1 t413 rfl
                    have hl435 : 1024 ≤ hq409.2.2.2.1 cq409_0 ∧ hq409.2.2.2.1 cq409_0 ≤ 1000000 := gJ.rowl (G := gGG) sS428.1 tcq409_0 rfl
                    have G436 : gSg [114] [] [56000, 56001, 56002, 56003, 71012, 71013, 71014, 114999] ty h tyq409 hq409 := gSg.ss G410 sS428 (by decide)
                    exact gz_wk (ihlp18 tyq409 hq409 cq409_0 (b + 1) fq409_0 fq409_1 fq409_2 bv9 (gms lp18m (by omega) (by omega)) G436 uq427 t411 t412 ecq409_0 tcq409_0 ⟨by omega, by omega⟩ ⟨by omega, by omega⟩ ⟨by omega, by omega⟩ ⟨by omega, by omega⟩ ⟨by omega, by omega⟩ (by omega) (by omega) (by omega) (by omega) (by omega) (by omega) (by omega) (by omega) (by omega) (by omega) (by omega) s415 s416 s417 s418 s419 s420 s421 s422 efq409_0 efq409_1 efq409_2 s423 pr424 pr425 htb429 hsw431 hok432) (gLw.s (gLw.s gLw.z))
              · refine gy_ifF rfl (by decide) (by decide) (by omega) hc368 ?_
                have htb437 := gTab.imp (Q := hg = 0) (fun w => ⟨by omega, w⟩) lp18k13
                refine gy_s 4 (pc' := 64) (L' := [some (.ref x), some (.int (zi b))]) (S' := [.int ((zi b) * (zi 64)), .ref x]) (L2 := [some (.ref x), some (.int (zi b))]) (S2 := [.int (zi (b * 64)), .ref x]) rfl (by simp only [zi_add, zi_sub, zi_mul, zi_neg, zi_and1, zi_and7, zi_and15, zi_and31, zi_and255]) (by simp only [zi_add, zi_sub, zi_mul, zi_neg, zi_and1, zi_and7, zi_and15, zi_and31, zi_and255]) ?_
                have hl438 : h23.2.2.2.1 bv = h23.2.2.2.1 bv := congrFun sh23.2.2.2.2.1 bv
                refine gz_call rfl (by decide) rfl (by decide) (by decide) (gcal_of rfl rfl rfl (Nat.le_of_ble_eq_true rfl) (gJ.recv (G := gGG) sh23.1 lp18c0 rfl rfl)) (cw_putFirst _ sh23.1 x lp18c0 (b * 64) ⟨by omega, by omega⟩ sk lp18k0 lp18c1 bv lp18r0 lp18r1 cv lp18k8 ⟨by omega, by omega⟩ uv lp18k9 ⟨by omega, by omega⟩ hv lp18k10 ⟨by omega, by omega⟩ cg lp18k1 ⟨by omega, by omega⟩ lw lp18k5 ⟨by omega, by omega⟩ hg lp18k4 ⟨by omega, by omega⟩ bs lp18k6 ⟨by omega, by omega⟩ bv9 lp18k11 ⟨by omega, by omega⟩ cf ((ewK ec96 ec79 iv fr tt hg lw cf sg (b).toNat).2) ec96 (by omega) (by omega) (by omega) (by omega) (by omega) (by omega) lp18u lp18k15 lp18k16 lp18k12 htb437) (fun q439 _ wq439 => ?_)
                obtain ⟨pq439, oq439, hq439⟩ := q439
                obtain ⟨tyq439, xq439, cq439_0, ttq439, fq439_0, fq439_1, fq439_2, fq439_3, ecq439_0, tcq439_0, gq439, efq439_0, afq439_0, bfq439_0, efq439_1, afq439_1, bfq439_1, efq439_2, afq439_2, bfq439_2, efq439_3, afq439_3, bfq439_3, uq439_0, uq439_1, uq439_2, uq439_3, uq439_4, uq439_5, uq439_6, uq439_7, uq439_8, uq439_9, yq439_0, yq439_1⟩ := wq439
                dsimp only at uq439_5 uq439_6 uq439_7 uq439_9
                refine ⟨_, gq439, ?_⟩
                show gz gPP gGG gcn _ _ 67 [some (.ref x), some (.int (zi b))] [] hq439 _
                have G440 : gSg [114] [] [56000, 56001, 56002, 56003, 71012, 71013, 71014, 114999] ty h tyq439 hq439 := gSg.tr (gSg.ss lp18G sh23 (by decide)) xq439 (by decide) (by decide) (fun x hx => by cases hx)
                have t441 : tyq439 x = 71 := gSg.typ xq439 sh23.1 lp18c0 rfl
                have t442 : tyq439 sk = 56 := gSg.typ xq439 sh23.1 lp18c1 rfl
                have t443 : tyq439 bv = 114 := gSg.typ xq439 sh23.1 lp18r1 rfl
                have hl444 : hq439.2.2.2.1 bv = h23.2.2.2.1 bv := gSg.len xq439 sh23.1 lp18r1 rfl
                have s445 := gSg.at xq439 sh23.1 lp18c0 rfl (by decide) lp18k0
                have s446 := gSg.at xq439 sh23.1 lp18c0 rfl (by decide) lp18k1
                have s447 := gSg.at xq439 sh23.1 lp18c0 rfl (by decide) lp18k2
                have s448 := gSg.at xq439 sh23.1 lp18c0 rfl (by decide) lp18k3
                have s449 := gSg.at xq439 sh23.1 lp18c0 rfl (by decide) lp18k4
                have s450 := gSg.at xq439 sh23.1 lp18c0 rfl (by decide) lp18k5
                have s451 := gSg.at xq439 sh23.1 lp18c0 rfl (by decide) lp18k6
                have s452 := gSg.at xq439 sh23.1 lp18c0 rfl (by decide) lp18k7
                have pr453 := gRn.gr xq439 sh23.1 rfl (by decide) (by decide) lp18k12
                have pr454 := gTab.gr xq439 sh23.1 rfl rfl (fun _ => rfl) (fun _ => rfl) (by decide) (by decide) (by decide) (by decide) htb437
                have pr455 := gTab.gr xq439 sh23.1 rfl rfl (fun _ => rfl) (fun _ => rfl) (by decide) (by decide) (by decide) (by decide) lp18k14
                have uq456 := gSg.uq xq439 lp18u (by decide)
                have sS457 : gSs rT 1027 tyq439 [56000, 56001, 56002, 56003, 71012, 71013, 71014, 114999] hq439 hq439 := gSs.rf xq439.1
                have htb458 := gTab.imp (Q := fr = 0 ∧ hg = 0) (fun w => w.2) pr454
                refine gz_s 1 (pc' := 68) (L' := [some (.ref x), some (.int (zi b))]) (S' := [.ref x]) rfl ?_
                refine gs_gtk rfl (by decide) rfl sS457.1 t441 rfl rfl s448 ?_
                by_cases hc459 : (tt : Int) ≤ 0
                · refine gy_ifT (pc' := 92) rfl (by decide) (by decide) (by omega) hc459 ?_
                  refine gz_s 1 (pc' := 93) (L' := [some (.ref x), some (.int (zi b))]) (S' := [.ref x]) rfl ?_
                  refine gs_gtk rfl (by decide) rfl sS457.1 t441 rfl rfl s448 ?_
                  refine gy_ifT (pc' := 107) rfl (by decide) (by decide) ⟨by omega, by omega⟩ (by first | (simp [zc]; done) | (simp only [zc]; omega)) ?_
                  have hK : ewK ec96 ec79 iv fr tt hg lw cf sg (b + 1).toNat = ((eeFi (ewS ec96) eeN lw hg (cf ((b * 64)).toNat) bv9 ((ewK ec96 ec79 iv fr tt hg lw cf sg (b).toNat).2)).1, (eeFi (ewS ec96) eeN lw hg (cf ((b * 64)).toNat) bv9 ((ewK ec96 ec79 iv fr tt hg lw cf sg (b).toNat).2)).2) := by
                    rw [hbn]
                    exact ewK_s (P := (bv9, (ewK ec96 ec79 iv fr tt hg lw cf sg (b).toNat).2)) (F := (eeFi (ewS ec96) eeN lw hg (cf ((b * 64)).toNat) bv9 ((ewK ec96 ec79 iv fr tt hg lw cf sg (b).toNat).2))) ((ewI_n (by omega) (by intro w; rcases w with ⟨w1, w2, w3⟩; first | omega | exact absurd w3 (by assumption))).trans (by rw [show bv9 = (ewK ec96 ec79 iv fr tt hg lw cf sg (b).toNat).1 by omega])) (ite2_1 (by omega) (by rw [hi0])) (ite3_3 (by omega) (by omega) rfl)
                  have hK1 : (ewK ec96 ec79 iv fr tt hg lw cf sg (b + 1).toNat).1 = (eeFi (ewS ec96) eeN lw hg (cf ((b * 64)).toNat) bv9 ((ewK ec96 ec79 iv fr tt hg lw cf sg (b).toNat).2)).1 := by rw [hK]
                  have hk460 : (ewK ec96 ec79 iv fr tt hg lw cf sg (b + 1).toNat).2 = (eeFi (ewS ec96) eeN lw hg (cf ((b * 64)).toNat) bv9 ((ewK ec96 ec79 iv fr tt hg lw cf sg (b).toNat).2)).2 := by rw [hK]
                  have hk460_1 : ((ewK ec96 ec79 iv fr tt hg lw cf sg (b + 1).toNat).2).1 = ((eeFi (ewS ec96) eeN lw hg (cf ((b * 64)).toNat) bv9 ((ewK ec96 ec79 iv fr tt hg lw cf sg (b).toNat).2)).2).1 := by rw [hk460]
                  have hk460_21 : ((ewK ec96 ec79 iv fr tt hg lw cf sg (b + 1).toNat).2).2.1 = ((eeFi (ewS ec96) eeN lw hg (cf ((b * 64)).toNat) bv9 ((ewK ec96 ec79 iv fr tt hg lw cf sg (b).toNat).2)).2).2.1 := by rw [hk460]
                  have hk460_221 : ((ewK ec96 ec79 iv fr tt hg lw cf sg (b + 1).toNat).2).2.2.1 = ((eeFi (ewS ec96) eeN lw hg (cf ((b * 64)).toNat) bv9 ((ewK ec96 ec79 iv fr tt hg lw cf sg (b).toNat).2)).2).2.2.1 := by rw [hk460]
                  have hsw461 : gSW tyq439 cq439_0 ((ewK ec96 ec79 iv fr tt hg lw cf sg (b + 1).toNat).2) hq439 := by rw [hk460]; exact yq439_0
                  have hok462 : eeOk ((ewK ec96 ec79 iv fr tt hg lw cf sg (b + 1).toNat).2) := by rw [hk460]; exact yq439_1
                  have hoc463 := hok462.cur
                  refine gy_s 2 (pc' := 7) (L' := [some (.ref x), some (.int ((zi b) + zi 1))]) (S' := []) (L2 := [some (.ref x), some (.int (zi (b + 1)))]) (S2 := []) rfl (by simp only [zi_add, zi_sub, zi_mul, zi_neg, zi_and1, zi_and7, zi_and15, zi_and31, zi_and255]) (by simp only [zi_add, zi_sub, zi_mul, zi_neg, zi_and1, zi_and7, zi_and15, zi_and31, zi_and255]) ?_
                  have hl464 : 1024 ≤ hq439.2.2.2.1 bv ∧ hq439.2.2.2.1 bv ≤ 1000000 := gJ.rowl (G := gGG) sS457.1 t443 rfl
                  have hl465 : 1024 ≤ hq439.2.2.2.1 cq439_0 ∧ hq439.2.2.2.1 cq439_0 ≤ 1000000 := gJ.rowl (G := gGG) sS457.1 tcq439_0 rfl
                  have G466 : gSg [114] [] [56000, 56001, 56002, 56003, 71012, 71013, 71014, 114999] ty h tyq439 hq439 := gSg.ss G440 sS457 (by decide)
                  exact gz_wk (ihlp18 tyq439 hq439 cq439_0 (b + 1) fq439_0 fq439_1 fq439_2 fq439_3 (gms lp18m (by omega) (by omega)) G466 uq456 t441 t442 ecq439_0 tcq439_0 ⟨by omega, by omega⟩ ⟨by omega, by omega⟩ ⟨by omega, by omega⟩ ⟨by omega, by omega⟩ ⟨by omega, by omega⟩ (by omega) (by omega) (by omega) (by omega) (by omega) (by omega) (by omega) (by omega) (by omega) (by omega) (by omega) s445 s446 s447 s448 s449 s450 s451 s452 efq439_0 efq439_1 efq439_2 efq439_3 pr453 htb458 pr455 hsw461 hok462) (gLw.s (gLw.s gLw.z))
                · refine gy_ifF rfl (by decide) (by decide) (by omega) hc459 ?_
                  refine gz_s 1 (pc' := 75) (L' := [some (.ref x), some (.int (zi b))]) (S' := [.ref x]) rfl ?_
                  refine gs_gtk rfl (by decide) rfl sS457.1 t441 rfl rfl s449 ?_
                  by_cases hc467 : (hg : Int) ≤ 0
                  · refine gy_ifT (pc' := 92) rfl (by decide) (by decide) (by omega) hc467 ?_
                    refine gz_s 1 (pc' := 93) (L' := [some (.ref x), some (.int (zi b))]) (S' := [.ref x]) rfl ?_
                    refine gs_gtk rfl (by decide) rfl sS457.1 t441 rfl rfl s448 ?_
                    refine gy_ifF rfl (by decide) (by decide) ⟨by omega, by omega⟩ (by first | (simp [zc]; done) | (simp only [zc]; omega)) ?_
                    have htb468 := gTab.imp (Q := True) (fun _ => by omega) pr455
                    refine gy_s 4 (pc' := 104) (L' := [some (.ref x), some (.int (zi b))]) (S' := [.int ((zi b) * (zi 64)), .ref x]) (L2 := [some (.ref x), some (.int (zi b))]) (S2 := [.int (zi (b * 64)), .ref x]) rfl (by simp only [zi_add, zi_sub, zi_mul, zi_neg, zi_and1, zi_and7, zi_and15, zi_and31, zi_and255]) (by simp only [zi_add, zi_sub, zi_mul, zi_neg, zi_and1, zi_and7, zi_and15, zi_and31, zi_and255]) ?_
                    have hl469 : hq439.2.2.2.1 cq439_0 = hq439.2.2.2.1 cq439_0 := congrFun sS457.2.2.2.2.1 cq439_0
                    refine gz_call rfl (by decide) rfl (by decide) (by decide) (gcal_of rfl rfl rfl (Nat.le_of_ble_eq_true rfl) (gJ.recv (G := gGG) sS457.1 t441 rfl rfl)) (cw_putOthers _ sS457.1 x t441 (b * 64) ⟨by omega, by omega⟩ sk s445 t442 cq439_0 ecq439_0 tcq439_0 fq439_0 efq439_0 ⟨by omega, by omega⟩ fq439_1 efq439_1 ⟨by omega, by omega⟩ fq439_2 efq439_2 ⟨by omega, by omega⟩ cg s446 ⟨by omega, by omega⟩ fr s447 ⟨by omega, by omega⟩ tt s448 ⟨by omega, by omega⟩ lw s450 ⟨by omega, by omega⟩ bs s451 ⟨by omega, by omega⟩ cf ((eeFi (ewS ec96) eeN lw hg (cf ((b * 64)).toNat) bv9 ((ewK ec96 ec79 iv fr tt hg lw cf sg (b).toNat).2)).2) ec79 (by omega) (by omega) (by omega) (by omega) (by omega) (by omega) (by omega) (by omega) uq456 yq439_0 yq439_1 htb468 pr453) (fun q470 _ wq470 => ?_)
                    obtain ⟨pq470, oq470, hq470⟩ := q470
                    obtain ⟨tyq470, xq470, cq470_0, ttq470, fq470_0, fq470_1, fq470_2, ecq470_0, tcq470_0, gq470, efq470_0, afq470_0, bfq470_0, efq470_1, afq470_1, bfq470_1, efq470_2, afq470_2, bfq470_2, uq470_0, uq470_1, uq470_2, uq470_3, uq470_4, uq470_5, uq470_6, uq470_7, uq470_8, yq470_0, yq470_1⟩ := wq470
                    dsimp only at uq470_5 uq470_6 uq470_7 uq470_8
                    refine ⟨_, gq470, ?_⟩
                    show gz gPP gGG gcn _ _ 107 [some (.ref x), some (.int (zi b))] [] hq470 _
                    have G471 : gSg [114] [] [56000, 56001, 56002, 56003, 71012, 71013, 71014, 114999] ty h tyq470 hq470 := gSg.tr (gSg.ss G440 sS457 (by decide)) xq470 (by decide) (by decide) (fun x hx => by cases hx)
                    have t472 : tyq470 x = 71 := gSg.typ xq470 sS457.1 t441 rfl
                    have t473 : tyq470 sk = 56 := gSg.typ xq470 sS457.1 t442 rfl
                    have t474 : tyq470 bv = 114 := gSg.typ xq470 sS457.1 t443 rfl
                    have hl475 : hq470.2.2.2.1 bv = hq439.2.2.2.1 bv := gSg.len xq470 sS457.1 t443 rfl
                    have t476 : tyq470 cq439_0 = 114 := gSg.typ xq470 sS457.1 tcq439_0 rfl
                    have hl477 : hq470.2.2.2.1 cq439_0 = hq439.2.2.2.1 cq439_0 := gSg.len xq470 sS457.1 tcq439_0 rfl
                    have s478 := gSg.at xq470 sS457.1 t441 rfl (by decide) s445
                    have s479 := gSg.at xq470 sS457.1 t441 rfl (by decide) s446
                    have s480 := gSg.at xq470 sS457.1 t441 rfl (by decide) s447
                    have s481 := gSg.at xq470 sS457.1 t441 rfl (by decide) s448
                    have s482 := gSg.at xq470 sS457.1 t441 rfl (by decide) s449
                    have s483 := gSg.at xq470 sS457.1 t441 rfl (by decide) s450
                    have s484 := gSg.at xq470 sS457.1 t441 rfl (by decide) s451
                    have s485 := gSg.at xq470 sS457.1 t441 rfl (by decide) s452
                    have s486 := gSg.at xq470 sS457.1 t441 rfl (by decide) efq439_3
                    have pr487 := gRn.gr xq470 sS457.1 rfl (by decide) (by decide) pr453
                    have pr488 := gTab.gr xq470 sS457.1 rfl rfl (fun _ => rfl) (fun _ => rfl) (by decide) (by decide) (by decide) (by decide) htb458
                    have pr489 := gTab.gr xq470 sS457.1 rfl rfl (fun _ => rfl) (fun _ => rfl) (by decide) (by decide) (by decide) (by decide) htb468
                    have uq490 := gSg.uq xq470 uq456 (by decide)
                    have sS491 : gSs rT 1027 tyq470 [56000, 56001, 56002, 56003, 71012, 71013, 71014, 114999] hq470 hq470 := gSs.rf xq470.1
                    have htb492 := gTab.imp (Q := 0 < tt) (fun _ => trivial) pr489
                    have hK : ewK ec96 ec79 iv fr tt hg lw cf sg (b + 1).toNat = ((eeFi (ewS ec96) eeN lw hg (cf ((b * 64)).toNat) bv9 ((ewK ec96 ec79 iv fr tt hg lw cf sg (b).toNat).2)).1, eeOt (ewS ec79) eeN lw cf ((b * 64) + (if 1 ≤ fr then fr else 1)).toNat (tt - (if 1 ≤ fr then fr else 1) + 1).toNat ((eeFi (ewS ec96) eeN lw hg (cf ((b * 64)).toNat) bv9 ((ewK ec96 ec79 iv fr tt hg lw cf sg (b).toNat).2)).2)) := by
                      rw [hbn]
                      exact ewK_s (P := (bv9, (ewK ec96 ec79 iv fr tt hg lw cf sg (b).toNat).2)) (F := (eeFi (ewS ec96) eeN lw hg (cf ((b * 64)).toNat) bv9 ((ewK ec96 ec79 iv fr tt hg lw cf sg (b).toNat).2))) ((ewI_n (by omega) (by intro w; rcases w with ⟨w1, w2, w3⟩; first | omega | exact absurd w3 (by assumption))).trans (by rw [show bv9 = (ewK ec96 ec79 iv fr tt hg lw cf sg (b).toNat).1 by omega])) (ite2_1 (by omega) (by rw [hi0])) (ite3_2 (by omega) (by omega) (by rw [hi2]))
                    have hK1 : (ewK ec96 ec79 iv fr tt hg lw cf sg (b + 1).toNat).1 = (eeFi (ewS ec96) eeN lw hg (cf ((b * 64)).toNat) bv9 ((ewK ec96 ec79 iv fr tt hg lw cf sg (b).toNat).2)).1 := by rw [hK]
                    have hk493 : (ewK ec96 ec79 iv fr tt hg lw cf sg (b + 1).toNat).2 = eeOt (ewS ec79) eeN lw cf ((b * 64) + (if 1 ≤ fr then fr else 1)).toNat (tt - (if 1 ≤ fr then fr else 1) + 1).toNat ((eeFi (ewS ec96) eeN lw hg (cf ((b * 64)).toNat) bv9 ((ewK ec96 ec79 iv fr tt hg lw cf sg (b).toNat).2)).2) := by rw [hK]
                    have hk493_1 : ((ewK ec96 ec79 iv fr tt hg lw cf sg (b + 1).toNat).2).1 = (eeOt (ewS ec79) eeN lw cf ((b * 64) + (if 1 ≤ fr then fr else 1)).toNat (tt - (if 1 ≤ fr then fr else 1) + 1).toNat ((eeFi (ewS ec96) eeN lw hg (cf ((b * 64)).toNat) bv9 ((ewK ec96 ec79 iv fr tt hg lw cf sg (b).toNat).2)).2)).1 := by rw [hk493]
                    have hk493_21 : ((ewK ec96 ec79 iv fr tt hg lw cf sg (b + 1).toNat).2).2.1 = (eeOt (ewS ec79) eeN lw cf ((b * 64) + (if 1 ≤ fr then fr else 1)).toNat (tt - (if 1 ≤ fr then fr else 1) + 1).toNat ((eeFi (ewS ec96) eeN lw hg (cf ((b * 64)).toNat) bv9 ((ewK ec96 ec79 iv fr tt hg lw cf sg (b).toNat).2)).2)).2.1 := by rw [hk493]
                    have hk493_221 : ((ewK ec96 ec79 iv fr tt hg lw cf sg (b + 1).toNat).2).2.2.1 = (eeOt (ewS ec79) eeN lw cf ((b * 64) + (if 1 ≤ fr then fr else 1)).toNat (tt - (if 1 ≤ fr then fr else 1) + 1).toNat ((eeFi (ewS ec96) eeN lw hg (cf ((b * 64)).toNat) bv9 ((ewK ec96 ec79 iv fr tt hg lw cf sg (b).toNat).2)).2)).2.2.1 := by rw [hk493]
                    have hsw494 : gSW tyq470 cq470_0 ((ewK ec96 ec79 iv fr tt hg lw cf sg (b + 1).toNat).2) hq470 := by rw [hk493]; exact yq470_0
                    have hok495 : eeOk ((ewK ec96 ec79 iv fr tt hg lw cf sg (b + 1).toNat).2) := by rw [hk493]; exact yq470_1
                    have hoc496 := hok495.cur
                    refine gy_s 2 (pc' := 7) (L' := [some (.ref x), some (.int ((zi b) + zi 1))]) (S' := []) (L2 := [some (.ref x), some (.int (zi (b + 1)))]) (S2 := []) rfl (by simp only [zi_add, zi_sub, zi_mul, zi_neg, zi_and1, zi_and7, zi_and15, zi_and31, zi_and255]) (by simp only [zi_add, zi_sub, zi_mul, zi_neg, zi_and1, zi_and7, zi_and15, zi_and31, zi_and255]) ?_
                    have hl497 : 1024 ≤ hq470.2.2.2.1 bv ∧ hq470.2.2.2.1 bv ≤ 1000000 := gJ.rowl (G := gGG) sS491.1 t474 rfl
                    have hl498 : 1024 ≤ hq470.2.2.2.1 cq439_0 ∧ hq470.2.2.2.1 cq439_0 ≤ 1000000 := gJ.rowl (G := gGG) sS491.1 t476 rfl
                    have hl499 : 1024 ≤ hq470.2.2.2.1 cq470_0 ∧ hq470.2.2.2.1 cq470_0 ≤ 1000000 := gJ.rowl (G := gGG) sS491.1 tcq470_0 rfl
                    have G500 : gSg [114] [] [56000, 56001, 56002, 56003, 71012, 71013, 71014, 114999] ty h tyq470 hq470 := gSg.ss G471 sS491 (by decide)
                    exact gz_wk (ihlp18 tyq470 hq470 cq470_0 (b + 1) fq470_0 fq470_1 fq470_2 fq439_3 (gms lp18m (by omega) (by omega)) G500 uq490 t472 t473 ecq470_0 tcq470_0 ⟨by omega, by omega⟩ ⟨by omega, by omega⟩ ⟨by omega, by omega⟩ ⟨by omega, by omega⟩ ⟨by omega, by omega⟩ (by omega) (by omega) (by omega) (by omega) (by omega) (by omega) (by omega) (by omega) (by omega) (by omega) (by omega) s478 s479 s480 s481 s482 s483 s484 s485 efq470_0 efq470_1 efq470_2 s486 pr487 pr488 htb492 hsw494 hok495) (gLw.s (gLw.s gLw.z))
                  · refine gy_ifF rfl (by decide) (by decide) (by omega) hc467 ?_
                    have htb501 := gTab.imp (Q := True) (fun _ => by omega) pr455
                    refine gy_s 4 (pc' := 86) (L' := [some (.ref x), some (.int (zi b))]) (S' := [.int ((zi b) * (zi 64)), .ref x]) (L2 := [some (.ref x), some (.int (zi b))]) (S2 := [.int (zi (b * 64)), .ref x]) rfl (by simp only [zi_add, zi_sub, zi_mul, zi_neg, zi_and1, zi_and7, zi_and15, zi_and31, zi_and255]) (by simp only [zi_add, zi_sub, zi_mul, zi_neg, zi_and1, zi_and7, zi_and15, zi_and31, zi_and255]) ?_
                    have hl502 : hq439.2.2.2.1 cq439_0 = hq439.2.2.2.1 cq439_0 := congrFun sS457.2.2.2.2.1 cq439_0
                    refine gz_call rfl (by decide) rfl (by decide) (by decide) (gcal_of rfl rfl rfl (Nat.le_of_ble_eq_true rfl) (gJ.recv (G := gGG) sS457.1 t441 rfl rfl)) (cw_refineOthers _ sS457.1 x t441 (b * 64) ⟨by omega, by omega⟩ sk s445 t442 cq439_0 ecq439_0 tcq439_0 fq439_0 efq439_0 ⟨by omega, by omega⟩ fq439_1 efq439_1 ⟨by omega, by omega⟩ fq439_2 efq439_2 ⟨by omega, by omega⟩ cg s446 ⟨by omega, by omega⟩ fr s447 ⟨by omega, by omega⟩ tt s448 ⟨by omega, by omega⟩ lw s450 ⟨by omega, by omega⟩ bs s451 ⟨by omega, by omega⟩ cf ((eeFi (ewS ec96) eeN lw hg (cf ((b * 64)).toNat) bv9 ((ewK ec96 ec79 iv fr tt hg lw cf sg (b).toNat).2)).2) ec79 (by omega) (by omega) (by omega) (by omega) (by omega) (by omega) (by omega) uq456 yq439_0 yq439_1 htb501 pr453) (fun q503 _ wq503 => ?_)
                    obtain ⟨pq503, oq503, hq503⟩ := q503
                    obtain ⟨tyq503, xq503, cq503_0, ttq503, fq503_0, fq503_1, fq503_2, ecq503_0, tcq503_0, gq503, efq503_0, afq503_0, bfq503_0, efq503_1, afq503_1, bfq503_1, efq503_2, afq503_2, bfq503_2, uq503_0, uq503_1, uq503_2, uq503_3, uq503_4, uq503_5, uq503_6, uq503_7, uq503_8, yq503_0, yq503_1⟩ := wq503
                    dsimp only at uq503_5 uq503_6 uq503_7 uq503_8
                    refine ⟨_, gq503, ?_⟩
                    show gz gPP gGG gcn _ _ 89 [some (.ref x), some (.int (zi b))] [] hq503 _
                    have G504 : gSg [114] [] [56000, 56001, 56002, 56003, 71012, 71013, 71014, 114999] ty h tyq503 hq503 := gSg.tr (gSg.ss G440 sS457 (by decide)) xq503 (by decide) (by decide) (fun x hx => by cases hx)
                    have t505 : tyq503 x = 71 := gSg.typ xq503 sS457.1 t441 rfl
                    have t506 : tyq503 sk = 56 := gSg.typ xq503 sS457.1 t442 rfl
                    have t507 : tyq503 bv = 114 := gSg.typ xq503 sS457.1 t443 rfl
                    have hl508 : hq503.2.2.2.1 bv = hq439.2.2.2.1 bv := gSg.len xq503 sS457.1 t443 rfl
                    have t509 : tyq503 cq439_0 = 114 := gSg.typ xq503 sS457.1 tcq439_0 rfl
                    have hl510 : hq503.2.2.2.1 cq439_0 = hq439.2.2.2.1 cq439_0 := gSg.len xq503 sS457.1 tcq439_0 rfl
                    have s511 := gSg.at xq503 sS457.1 t441 rfl (by decide) s445
                    have s512 := gSg.at xq503 sS457.1 t441 rfl (by decide) s446
                    have s513 := gSg.at xq503 sS457.1 t441 rfl (by decide) s447
                    have s514 := gSg.at xq503 sS457.1 t441 rfl (by decide) s448
                    have s515 := gSg.at xq503 sS457.1 t441 rfl (by decide) s449
                    have s516 := gSg.at xq503 sS457.1 t441 rfl (by decide) s450
                    have s517 := gSg.at xq503 sS457.1 t441 rfl (by decide) s451
                    have s518 := gSg.at xq503 sS457.1 t441 rfl (by decide) s452
                    have s519 := gSg.at xq503 sS457.1 t441 rfl (by decide) efq439_3
                    have pr520 := gRn.gr xq503 sS457.1 rfl (by decide) (by decide) pr453
                    have pr521 := gTab.gr xq503 sS457.1 rfl rfl (fun _ => rfl) (fun _ => rfl) (by decide) (by decide) (by decide) (by decide) htb458
                    have pr522 := gTab.gr xq503 sS457.1 rfl rfl (fun _ => rfl) (fun _ => rfl) (by decide) (by decide) (by decide) (by decide) htb501
                    have uq523 := gSg.uq xq503 uq456 (by decide)
                    have sS524 : gSs rT 1027 tyq503 [56000, 56001, 56002, 56003, 71012, 71013, 71014, 114999] hq503 hq503 := gSs.rf xq503.1
                    refine gz_s 1 (pc' := 107) (L' := [some (.ref x), some (.int (zi b))]) (S' := []) rfl ?_
                    have htb525 := gTab.imp (Q := 0 < tt) (fun _ => trivial) pr522
                    have hK : ewK ec96 ec79 iv fr tt hg lw cf sg (b + 1).toNat = ((eeFi (ewS ec96) eeN lw hg (cf ((b * 64)).toNat) bv9 ((ewK ec96 ec79 iv fr tt hg lw cf sg (b).toNat).2)).1, eeRz (ewS ec79) eeN lw cf (b * 64) fr tt ((eeFi (ewS ec96) eeN lw hg (cf ((b * 64)).toNat) bv9 ((ewK ec96 ec79 iv fr tt hg lw cf sg (b).toNat).2)).2)) := by
                      rw [hbn]
                      exact ewK_s (P := (bv9, (ewK ec96 ec79 iv fr tt hg lw cf sg (b).toNat).2)) (F := (eeFi (ewS ec96) eeN lw hg (cf ((b * 64)).toNat) bv9 ((ewK ec96 ec79 iv fr tt hg lw cf sg (b).toNat).2))) ((ewI_n (by omega) (by intro w; rcases w with ⟨w1, w2, w3⟩; first | omega | exact absurd w3 (by assumption))).trans (by rw [show bv9 = (ewK ec96 ec79 iv fr tt hg lw cf sg (b).toNat).1 by omega])) (ite2_1 (by omega) (by rw [hi0])) (ite3_1 ⟨by omega, by omega⟩ (by unfold eeRz; rw [hi1]))
                    have hK1 : (ewK ec96 ec79 iv fr tt hg lw cf sg (b + 1).toNat).1 = (eeFi (ewS ec96) eeN lw hg (cf ((b * 64)).toNat) bv9 ((ewK ec96 ec79 iv fr tt hg lw cf sg (b).toNat).2)).1 := by rw [hK]
                    have hk526 : (ewK ec96 ec79 iv fr tt hg lw cf sg (b + 1).toNat).2 = eeRz (ewS ec79) eeN lw cf (b * 64) fr tt ((eeFi (ewS ec96) eeN lw hg (cf ((b * 64)).toNat) bv9 ((ewK ec96 ec79 iv fr tt hg lw cf sg (b).toNat).2)).2) := by rw [hK]
                    have hk526_1 : ((ewK ec96 ec79 iv fr tt hg lw cf sg (b + 1).toNat).2).1 = (eeRz (ewS ec79) eeN lw cf (b * 64) fr tt ((eeFi (ewS ec96) eeN lw hg (cf ((b * 64)).toNat) bv9 ((ewK ec96 ec79 iv fr tt hg lw cf sg (b).toNat).2)).2)).1 := by rw [hk526]
                    have hk526_21 : ((ewK ec96 ec79 iv fr tt hg lw cf sg (b + 1).toNat).2).2.1 = (eeRz (ewS ec79) eeN lw cf (b * 64) fr tt ((eeFi (ewS ec96) eeN lw hg (cf ((b * 64)).toNat) bv9 ((ewK ec96 ec79 iv fr tt hg lw cf sg (b).toNat).2)).2)).2.1 := by rw [hk526]
                    have hk526_221 : ((ewK ec96 ec79 iv fr tt hg lw cf sg (b + 1).toNat).2).2.2.1 = (eeRz (ewS ec79) eeN lw cf (b * 64) fr tt ((eeFi (ewS ec96) eeN lw hg (cf ((b * 64)).toNat) bv9 ((ewK ec96 ec79 iv fr tt hg lw cf sg (b).toNat).2)).2)).2.2.1 := by rw [hk526]
                    have hsw527 : gSW tyq503 cq503_0 ((ewK ec96 ec79 iv fr tt hg lw cf sg (b + 1).toNat).2) hq503 := by rw [hk526]; exact yq503_0
                    have hok528 : eeOk ((ewK ec96 ec79 iv fr tt hg lw cf sg (b + 1).toNat).2) := by rw [hk526]; exact yq503_1
                    have hoc529 := hok528.cur
                    refine gy_s 2 (pc' := 7) (L' := [some (.ref x), some (.int ((zi b) + zi 1))]) (S' := []) (L2 := [some (.ref x), some (.int (zi (b + 1)))]) (S2 := []) rfl (by simp only [zi_add, zi_sub, zi_mul, zi_neg, zi_and1, zi_and7, zi_and15, zi_and31, zi_and255]) (by simp only [zi_add, zi_sub, zi_mul, zi_neg, zi_and1, zi_and7, zi_and15, zi_and31, zi_and255]) ?_
                    have hl530 : 1024 ≤ hq503.2.2.2.1 bv ∧ hq503.2.2.2.1 bv ≤ 1000000 := gJ.rowl (G := gGG) sS524.1 t507 rfl
                    have hl531 : 1024 ≤ hq503.2.2.2.1 cq439_0 ∧ hq503.2.2.2.1 cq439_0 ≤ 1000000 := gJ.rowl (G := gGG) sS524.1 t509 rfl
                    have hl532 : 1024 ≤ hq503.2.2.2.1 cq503_0 ∧ hq503.2.2.2.1 cq503_0 ≤ 1000000 := gJ.rowl (G := gGG) sS524.1 tcq503_0 rfl
                    have G533 : gSg [114] [] [56000, 56001, 56002, 56003, 71012, 71013, 71014, 114999] ty h tyq503 hq503 := gSg.ss G504 sS524 (by decide)
                    exact gz_wk (ihlp18 tyq503 hq503 cq503_0 (b + 1) fq503_0 fq503_1 fq503_2 fq439_3 (gms lp18m (by omega) (by omega)) G533 uq523 t505 t506 ecq503_0 tcq503_0 ⟨by omega, by omega⟩ ⟨by omega, by omega⟩ ⟨by omega, by omega⟩ ⟨by omega, by omega⟩ ⟨by omega, by omega⟩ (by omega) (by omega) (by omega) (by omega) (by omega) (by omega) (by omega) (by omega) (by omega) (by omega) (by omega) s511 s512 s513 s514 s515 s516 s517 s518 efq503_0 efq503_1 efq503_2 s519 pr520 pr521 htb525 hsw527 hok528) (gLw.s (gLw.s gLw.z))
            · refine gy_ifF rfl (by decide) (by decide) (by omega) hc367 ?_
              refine gz_s 2 (pc' := 37) (L' := [some (.ref x), some (.int (zi b))]) (S' := [.int (zi 0), .ref x]) rfl ?_
              refine gs_put rfl (by decide) rfl sh23 lp18c0 rfl rfl rfl rfl (Or.inl rfl) (by decide) (by omega) (by omega) (fun h534 sh534 eh534 fh534 => ?_)
              have pr535 := gRn.pt fh534 lp18c0 (by decide) lp18k12
              have pr536 := gTab.pt fh534 lp18c0 (by decide) (by decide) lp18k13
              have pr537 := gTab.pt fh534 lp18c0 (by decide) (by decide) lp18k14
              have pr538 := gSW.pt fh534 lp18c0 (by decide) lp18k15
              have s539 := (fh534 x 0 (fun q => absurd q.2 (by decide))).trans lp18k0
              have s540 := (fh534 x 11 (fun q => absurd q.2 (by decide))).trans lp18k1
              have s541 := (fh534 x 7 (fun q => absurd q.2 (by decide))).trans lp18k2
              have s542 := (fh534 x 8 (fun q => absurd q.2 (by decide))).trans lp18k3
              have s543 := (fh534 x 9 (fun q => absurd q.2 (by decide))).trans lp18k4
              have s544 := (fh534 x 10 (fun q => absurd q.2 (by decide))).trans lp18k5
              have s545 := (fh534 x 5 (fun q => absurd q.2 (by decide))).trans lp18k6
              have s546 := (fh534 x 6 (fun q => absurd q.2 (by decide))).trans lp18k7
              have s547 := (fh534 sk 1 (fun q => absurd q.2 (by decide))).trans lp18k8
              have s548 := (fh534 sk 2 (fun q => absurd q.2 (by decide))).trans lp18k9
              have s549 := (fh534 sk 3 (fun q => absurd q.2 (by decide))).trans lp18k10
              have s550 := (fh534 sk 0 (fun q => absurd q.2 (by decide))).trans lp18r0
              refine gz_s 3 (pc' := 43) (L' := [some (.ref x), some (.int (zi b))]) (S' := [.ref x, .int (zi b), .ref x]) rfl ?_
              refine gs_gtk rfl (by decide) rfl sh534.1 lp18c0 rfl rfl s546 ?_
              refine gy_div rfl (by decide) (by omega) (by omega) ?_
              have hd551 := zd_f (x := b) (y := iv) (by omega) (by omega)
              refine gy_s 2 (pc' := 49) (L' := [some (.ref x), some (.int (zi b))]) (S' := [.int ((zi (b / iv)) - (zi 1)), .ref x]) (L2 := [some (.ref x), some (.int (zi b))]) (S2 := [.int (zi ((b / iv) - 1)), .ref x]) rfl (by simp only [zi_add, zi_sub, zi_mul, zi_neg, zi_and1, zi_and7, zi_and15, zi_and31, zi_and255]) (by simp only [zi_add, zi_sub, zi_mul, zi_neg, zi_and1, zi_and7, zi_and15, zi_and31, zi_and255]) ?_
              have hdv1 := e_div1 (b := b) (iv := iv) (by omega) (by omega) (by first | assumption | exact Decidable.not_not.mp (by assumption))
              have k552 := sh534.2.1
              have k552b := sh534.2.2.1
              have hl553 : h534.2.2.2.1 bv = h23.2.2.2.1 bv := congrFun sh534.2.2.2.2.1 bv
              have hl554 : h534.2.2.2.1 bv = h23.2.2.2.1 bv := congrFun sh534.2.2.2.2.1 bv
              refine gz_call rfl (by decide) rfl (by decide) (by decide) (gcal_of rfl rfl rfl (Nat.le_of_ble_eq_true rfl) (gJ.recv (G := gGG) sh534.1 lp18c0 rfl rfl)) (cw_putRestart _ sh534.1 x lp18c0 ((b / iv) - 1) ⟨by omega, by omega⟩ sk s539 lp18c1 bv s550 lp18r1 cv s547 ⟨by omega, by omega⟩ uv s548 ⟨by omega, by omega⟩ hv s549 ⟨by omega, by omega⟩ cg s540 ⟨by omega, by omega⟩ ((ewK ec96 ec79 iv fr tt hg lw cf sg (b).toNat).2) (by omega) (by omega) (by omega) (by omega) (by omega) lp18u pr538 lp18k16) (fun q555 _ wq555 => ?_)
              obtain ⟨pq555, oq555, hq555⟩ := q555
              obtain ⟨tyq555, xq555, cq555_0, ttq555, fq555_0, fq555_1, fq555_2, ecq555_0, tcq555_0, gq555, efq555_0, afq555_0, bfq555_0, efq555_1, afq555_1, bfq555_1, efq555_2, afq555_2, bfq555_2, uq555_0, uq555_1, uq555_2, uq555_3, uq555_4, uq555_5, uq555_6, uq555_7, uq555_8, yq555_0, yq555_1⟩ := wq555
              dsimp only at uq555_5 uq555_6 uq555_7 uq555_8
              refine ⟨_, gq555, ?_⟩
              show gz gPP gGG gcn _ _ 52 [some (.ref x), some (.int (zi b))] [] hq555 _
              have G556 : gSg [114] [] [56000, 56001, 56002, 56003, 71012, 71013, 71014, 114999] ty h tyq555 hq555 := gSg.tr (gSg.ss lp18G sh534 (by decide)) xq555 (by decide) (by decide) (fun x hx => by cases hx)
              have t557 : tyq555 x = 71 := gSg.typ xq555 sh534.1 lp18c0 rfl
              have t558 : tyq555 sk = 56 := gSg.typ xq555 sh534.1 lp18c1 rfl
              have t559 : tyq555 bv = 114 := gSg.typ xq555 sh534.1 lp18r1 rfl
              have hl560 : hq555.2.2.2.1 bv = h534.2.2.2.1 bv := gSg.len xq555 sh534.1 lp18r1 rfl
              have s561 := gSg.at xq555 sh534.1 lp18c0 rfl (by decide) s539
              have s562 := gSg.at xq555 sh534.1 lp18c0 rfl (by decide) s540
              have s563 := gSg.at xq555 sh534.1 lp18c0 rfl (by decide) s541
              have s564 := gSg.at xq555 sh534.1 lp18c0 rfl (by decide) s542
              have s565 := gSg.at xq555 sh534.1 lp18c0 rfl (by decide) s543
              have s566 := gSg.at xq555 sh534.1 lp18c0 rfl (by decide) s544
              have s567 := gSg.at xq555 sh534.1 lp18c0 rfl (by decide) s545
              have s568 := gSg.at xq555 sh534.1 lp18c0 rfl (by decide) s546
              have s569 := gSg.at xq555 sh534.1 lp18c0 rfl (by decide) eh534
              have pr570 := gRn.gr xq555 sh534.1 rfl (by decide) (by decide) pr535
              have pr571 := gTab.gr xq555 sh534.1 rfl rfl (fun _ => rfl) (fun _ => rfl) (by decide) (by decide) (by decide) (by decide) pr536
              have pr572 := gTab.gr xq555 sh534.1 rfl rfl (fun _ => rfl) (fun _ => rfl) (by decide) (by decide) (by decide) (by decide) pr537
              have uq573 := gSg.uq xq555 lp18u (by decide)
              have sS574 : gSs rT 1027 tyq555 [56000, 56001, 56002, 56003, 71012, 71013, 71014, 114999] hq555 hq555 := gSs.rf xq555.1
              refine gz_s 1 (pc' := 53) (L' := [some (.ref x), some (.int (zi b))]) (S' := [.ref x]) rfl ?_
              refine gs_gtk rfl (by decide) rfl sS574.1 t557 rfl rfl s563 ?_
              by_cases hc575 : ¬ (fr : Int) = 0
              · refine gy_ifT (pc' := 67) rfl (by decide) (by decide) (by omega) hc575 ?_
                refine gz_s 1 (pc' := 68) (L' := [some (.ref x), some (.int (zi b))]) (S' := [.ref x]) rfl ?_
                refine gs_gtk rfl (by decide) rfl sS574.1 t557 rfl rfl s564 ?_
                by_cases hc576 : (tt : Int) ≤ 0
                · refine gy_ifT (pc' := 92) rfl (by decide) (by decide) (by omega) hc576 ?_
                  refine gz_s 1 (pc' := 93) (L' := [some (.ref x), some (.int (zi b))]) (S' := [.ref x]) rfl ?_
                  refine gs_gtk rfl (by decide) rfl sS574.1 t557 rfl rfl s564 ?_
                  refine gy_ifT (pc' := 107) rfl (by decide) (by decide) ⟨by omega, by omega⟩ (by first | (simp [zc]; done) | (simp only [zc]; omega)) ?_
                  have hK : ewK ec96 ec79 iv fr tt hg lw cf sg (b + 1).toNat = ((0, eeM (eeF ((ewK ec96 ec79 iv fr tt hg lw cf sg (b).toNat).2)) (208 + ((b / iv) - 1) % 8)).1, eeM (eeF ((ewK ec96 ec79 iv fr tt hg lw cf sg (b).toNat).2)) (208 + ((b / iv) - 1) % 8)) := by
                    rw [hbn]
                    exact ewK_s (P := (0, eeM (eeF ((ewK ec96 ec79 iv fr tt hg lw cf sg (b).toNat).2)) (208 + ((b / iv) - 1) % 8))) (F := (0, eeM (eeF ((ewK ec96 ec79 iv fr tt hg lw cf sg (b).toNat).2)) (208 + ((b / iv) - 1) % 8))) ((ewI_y (by omega) (by omega) (by first | assumption | exact Decidable.not_not.mp (by assumption))).trans (by rw [(by omega : (((b).toNat : Nat) : Int) = b)])) (ite2_2 (by omega) rfl) (ite3_3 (by omega) (by omega) rfl)
                  have hK1 : (ewK ec96 ec79 iv fr tt hg lw cf sg (b + 1).toNat).1 = (0, eeM (eeF ((ewK ec96 ec79 iv fr tt hg lw cf sg (b).toNat).2)) (208 + ((b / iv) - 1) % 8)).1 := by rw [hK]
                  have hK2 : (0, eeM (eeF ((ewK ec96 ec79 iv fr tt hg lw cf sg (b).toNat).2)) (208 + ((b / iv) - 1) % 8)).1 = 0 := rfl
                  have hk577 : (ewK ec96 ec79 iv fr tt hg lw cf sg (b + 1).toNat).2 = eeM (eeF ((ewK ec96 ec79 iv fr tt hg lw cf sg (b).toNat).2)) (208 + ((b / iv) - 1) % 8) := by rw [hK]
                  have hk577_1 : ((ewK ec96 ec79 iv fr tt hg lw cf sg (b + 1).toNat).2).1 = (eeM (eeF ((ewK ec96 ec79 iv fr tt hg lw cf sg (b).toNat).2)) (208 + ((b / iv) - 1) % 8)).1 := by rw [hk577]
                  have hk577_21 : ((ewK ec96 ec79 iv fr tt hg lw cf sg (b + 1).toNat).2).2.1 = (eeM (eeF ((ewK ec96 ec79 iv fr tt hg lw cf sg (b).toNat).2)) (208 + ((b / iv) - 1) % 8)).2.1 := by rw [hk577]
                  have hk577_221 : ((ewK ec96 ec79 iv fr tt hg lw cf sg (b + 1).toNat).2).2.2.1 = (eeM (eeF ((ewK ec96 ec79 iv fr tt hg lw cf sg (b).toNat).2)) (208 + ((b / iv) - 1) % 8)).2.2.1 := by rw [hk577]
                  have hsw578 : gSW tyq555 cq555_0 ((ewK ec96 ec79 iv fr tt hg lw cf sg (b + 1).toNat).2) hq555 := by rw [hk577]; exact yq555_0
                  have hok579 : eeOk ((ewK ec96 ec79 iv fr tt hg lw cf sg (b + 1).toNat).2) := by rw [hk577]; exact yq555_1
                  have hoc580 := hok579.cur
                  refine gy_s 2 (pc' := 7) (L' := [some (.ref x), some (.int ((zi b) + zi 1))]) (S' := []) (L2 := [some (.ref x), some (.int (zi (b + 1)))]) (S2 := []) rfl (by simp only [zi_add, zi_sub, zi_mul, zi_neg, zi_and1, zi_and7, zi_and15, zi_and31, zi_and255]) (by simp only [zi_add, zi_sub, zi_mul, zi_neg, zi_and1, zi_and7, zi_and15, zi_and31, zi_and255]) ?_
                  have hl581 : 1024 ≤ hq555.2.2.2.1 bv ∧ hq555.2.2.2.1 bv ≤ 1000000 := gJ.rowl (G := gGG) sS574.1 t559 rfl
                  have hl582 : 1024 ≤ hq555.2.2.2.1 cq555_0 ∧ hq555.2.2.2.1 cq555_0 ≤ 1000000 := gJ.rowl (G := gGG) sS574.1 tcq555_0 rfl
                  have G583 : gSg [114] [] [56000, 56001, 56002, 56003, 71012, 71013, 71014, 114999] ty h tyq555 hq555 := gSg.ss G556 sS574 (by decide)
                  exact gz_wk (ihlp18 tyq555 hq555 cq555_0 (b + 1) fq555_0 fq555_1 fq555_2 0 (gms lp18m (by omega) (by omega)) G583 uq573 t557 t558 ecq555_0 tcq555_0 ⟨by omega, by omega⟩ ⟨by omega, by omega⟩ ⟨by omega, by omega⟩ ⟨by omega, by omega⟩ ⟨by omega, by omega⟩ (by omega) (by omega) (by omega) (by omega) (by omega) (by omega) (by omega) (by omega) (by omega) (by omega) (by omega) s561 s562 s563 s564 s565 s566 s567 s568 efq555_0 efq555_1 efq555_2 s569 pr570 pr571 pr572 hsw578 hok579) (gLw.s (gLw.s gLw.z))
                · refine gy_ifF rfl (by decide) (by decide) (by omega) hc576 ?_
                  refine gz_s 1 (pc' := 75) (L' := [some (.ref x), some (.int (zi b))]) (S' := [.ref x]) rfl ?_
                  refine gs_gtk rfl (by decide) rfl sS574.1 t557 rfl rfl s565 ?_
                  by_cases hc584 : (hg : Int) ≤ 0
                  · refine gy_ifT (pc' := 92) rfl (by decide) (by decide) (by omega) hc584 ?_
                    refine gz_s 1 (pc' := 93) (L' := [some (.ref x), some (.int (zi b))]) (S' := [.ref x]) rfl ?_
                    refine gs_gtk rfl (by decide) rfl sS574.1 t557 rfl rfl s564 ?_
                    refine gy_ifF rfl (by decide) (by decide) ⟨by omega, by omega⟩ (by first | (simp [zc]; done) | (simp only [zc]; omega)) ?_
                    have htb585 := gTab.imp (Q := True) (fun _ => by omega) pr572
                    refine gy_s 4 (pc' := 104) (L' := [some (.ref x), some (.int (zi b))]) (S' := [.int ((zi b) * (zi 64)), .ref x]) (L2 := [some (.ref x), some (.int (zi b))]) (S2 := [.int (zi (b * 64)), .ref x]) rfl (by simp only [zi_add, zi_sub, zi_mul, zi_neg, zi_and1, zi_and7, zi_and15, zi_and31, zi_and255]) (by simp only [zi_add, zi_sub, zi_mul, zi_neg, zi_and1, zi_and7, zi_and15, zi_and31, zi_and255]) ?_
                    have hl586 : hq555.2.2.2.1 cq555_0 = hq555.2.2.2.1 cq555_0 := congrFun sS574.2.2.2.2.1 cq555_0
                    refine gz_call rfl (by decide) rfl (by decide) (by decide) (gcal_of rfl rfl rfl (Nat.le_of_ble_eq_true rfl) (gJ.recv (G := gGG) sS574.1 t557 rfl rfl)) (cw_putOthers _ sS574.1 x t557 (b * 64) ⟨by omega, by omega⟩ sk s561 t558 cq555_0 ecq555_0 tcq555_0 fq555_0 efq555_0 ⟨by omega, by omega⟩ fq555_1 efq555_1 ⟨by omega, by omega⟩ fq555_2 efq555_2 ⟨by omega, by omega⟩ cg s562 ⟨by omega, by omega⟩ fr s563 ⟨by omega, by omega⟩ tt s564 ⟨by omega, by omega⟩ lw s566 ⟨by omega, by omega⟩ bs s567 ⟨by omega, by omega⟩ cf (eeM (eeF ((ewK ec96 ec79 iv fr tt hg lw cf sg (b).toNat).2)) (208 + ((b / iv) - 1) % 8)) ec79 (by omega) (by omega) (by omega) (by omega) (by omega) (by omega) (by omega) (by omega) uq573 yq555_0 yq555_1 htb585 pr570) (fun q587 _ wq587 => ?_)
                    obtain ⟨pq587, oq587, hq587⟩ := q587
                    obtain ⟨tyq587, xq587, cq587_0, ttq587, fq587_0, fq587_1, fq587_2, ecq587_0, tcq587_0, gq587, efq587_0, afq587_0, bfq587_0, efq587_1, afq587_1, bfq587_1, efq587_2, afq587_2, bfq587_2, uq587_0, uq587_1, uq587_2, uq587_3, uq587_4, uq587_5, uq587_6, uq587_7, uq587_8, yq587_0, yq587_1⟩ := wq587
                    dsimp only at uq587_5 uq587_6 uq587_7 uq587_8
                    refine ⟨_, gq587, ?_⟩
                    show gz gPP gGG gcn _ _ 107 [some (.ref x), some (.int (zi b))] [] hq587 _
                    have G588 : gSg [114] [] [56000, 56001, 56002, 56003, 71012, 71013, 71014, 114999] ty h tyq587 hq587 := gSg.tr (gSg.ss G556 sS574 (by decide)) xq587 (by decide) (by decide) (fun x hx => by cases hx)
                    have t589 : tyq587 x = 71 := gSg.typ xq587 sS574.1 t557 rfl
                    have t590 : tyq587 sk = 56 := gSg.typ xq587 sS574.1 t558 rfl
                    have t591 : tyq587 bv = 114 := gSg.typ xq587 sS574.1 t559 rfl
                    have hl592 : hq587.2.2.2.1 bv = hq555.2.2.2.1 bv := gSg.len xq587 sS574.1 t559 rfl
                    have t593 : tyq587 cq555_0 = 114 := gSg.typ xq587 sS574.1 tcq555_0 rfl
                    have hl594 : hq587.2.2.2.1 cq555_0 = hq555.2.2.2.1 cq555_0 := gSg.len xq587 sS574.1 tcq555_0 rfl
                    have s595 := gSg.at xq587 sS574.1 t557 rfl (by decide) s561
                    have s596 := gSg.at xq587 sS574.1 t557 rfl (by decide) s562
                    have s597 := gSg.at xq587 sS574.1 t557 rfl (by decide) s563
                    have s598 := gSg.at xq587 sS574.1 t557 rfl (by decide) s564
                    have s599 := gSg.at xq587 sS574.1 t557 rfl (by decide) s565
                    have s600 := gSg.at xq587 sS574.1 t557 rfl (by decide) s566
                    have s601 := gSg.at xq587 sS574.1 t557 rfl (by decide) s567
                    have s602 := gSg.at xq587 sS574.1 t557 rfl (by decide) s568
                    have s603 := gSg.at xq587 sS574.1 t557 rfl (by decide) s569
                    have pr604 := gRn.gr xq587 sS574.1 rfl (by decide) (by decide) pr570
                    have pr605 := gTab.gr xq587 sS574.1 rfl rfl (fun _ => rfl) (fun _ => rfl) (by decide) (by decide) (by decide) (by decide) pr571
                    have pr606 := gTab.gr xq587 sS574.1 rfl rfl (fun _ => rfl) (fun _ => rfl) (by decide) (by decide) (by decide) (by decide) htb585
                    have uq607 := gSg.uq xq587 uq573 (by decide)
                    have sS608 : gSs rT 1027 tyq587 [56000, 56001, 56002, 56003, 71012, 71013, 71014, 114999] hq587 hq587 := gSs.rf xq587.1
                    have htb609 := gTab.imp (Q := 0 < tt) (fun _ => trivial) pr606
                    have hK : ewK ec96 ec79 iv fr tt hg lw cf sg (b + 1).toNat = ((0, eeM (eeF ((ewK ec96 ec79 iv fr tt hg lw cf sg (b).toNat).2)) (208 + ((b / iv) - 1) % 8)).1, eeOt (ewS ec79) eeN lw cf ((b * 64) + (if 1 ≤ fr then fr else 1)).toNat (tt - (if 1 ≤ fr then fr else 1) + 1).toNat (eeM (eeF ((ewK ec96 ec79 iv fr tt hg lw cf sg (b).toNat).2)) (208 + ((b / iv) - 1) % 8))) := by
                      rw [hbn]
                      exact ewK_s (P := (0, eeM (eeF ((ewK ec96 ec79 iv fr tt hg lw cf sg (b).toNat).2)) (208 + ((b / iv) - 1) % 8))) (F := (0, eeM (eeF ((ewK ec96 ec79 iv fr tt hg lw cf sg (b).toNat).2)) (208 + ((b / iv) - 1) % 8))) ((ewI_y (by omega) (by omega) (by first | assumption | exact Decidable.not_not.mp (by assumption))).trans (by rw [(by omega : (((b).toNat : Nat) : Int) = b)])) (ite2_2 (by omega) rfl) (ite3_2 (by omega) (by omega) (by rw [hi2]))
                    have hK1 : (ewK ec96 ec79 iv fr tt hg lw cf sg (b + 1).toNat).1 = (0, eeM (eeF ((ewK ec96 ec79 iv fr tt hg lw cf sg (b).toNat).2)) (208 + ((b / iv) - 1) % 8)).1 := by rw [hK]
                    have hK2 : (0, eeM (eeF ((ewK ec96 ec79 iv fr tt hg lw cf sg (b).toNat).2)) (208 + ((b / iv) - 1) % 8)).1 = 0 := rfl
                    have hk610 : (ewK ec96 ec79 iv fr tt hg lw cf sg (b + 1).toNat).2 = eeOt (ewS ec79) eeN lw cf ((b * 64) + (if 1 ≤ fr then fr else 1)).toNat (tt - (if 1 ≤ fr then fr else 1) + 1).toNat (eeM (eeF ((ewK ec96 ec79 iv fr tt hg lw cf sg (b).toNat).2)) (208 + ((b / iv) - 1) % 8)) := by rw [hK]
                    have hk610_1 : ((ewK ec96 ec79 iv fr tt hg lw cf sg (b + 1).toNat).2).1 = (eeOt (ewS ec79) eeN lw cf ((b * 64) + (if 1 ≤ fr then fr else 1)).toNat (tt - (if 1 ≤ fr then fr else 1) + 1).toNat (eeM (eeF ((ewK ec96 ec79 iv fr tt hg lw cf sg (b).toNat).2)) (208 + ((b / iv) - 1) % 8))).1 := by rw [hk610]
                    have hk610_21 : ((ewK ec96 ec79 iv fr tt hg lw cf sg (b + 1).toNat).2).2.1 = (eeOt (ewS ec79) eeN lw cf ((b * 64) + (if 1 ≤ fr then fr else 1)).toNat (tt - (if 1 ≤ fr then fr else 1) + 1).toNat (eeM (eeF ((ewK ec96 ec79 iv fr tt hg lw cf sg (b).toNat).2)) (208 + ((b / iv) - 1) % 8))).2.1 := by rw [hk610]
                    have hk610_221 : ((ewK ec96 ec79 iv fr tt hg lw cf sg (b + 1).toNat).2).2.2.1 = (eeOt (ewS ec79) eeN lw cf ((b * 64) + (if 1 ≤ fr then fr else 1)).toNat (tt - (if 1 ≤ fr then fr else 1) + 1).toNat (eeM (eeF ((ewK ec96 ec79 iv fr tt hg lw cf sg (b).toNat).2)) (208 + ((b / iv) - 1) % 8))).2.2.1 := by rw [hk610]
                    have hsw611 : gSW tyq587 cq587_0 ((ewK ec96 ec79 iv fr tt hg lw cf sg (b + 1).toNat).2) hq587 := by rw [hk610]; exact yq587_0
                    have hok612 : eeOk ((ewK ec96 ec79 iv fr tt hg lw cf sg (b + 1).toNat).2) := by rw [hk610]; exact yq587_1
                    have hoc613 := hok612.cur
                    refine gy_s 2 (pc' := 7) (L' := [some (.ref x), some (.int ((zi b) + zi 1))]) (S' := []) (L2 := [some (.ref x), some (.int (zi (b + 1)))]) (S2 := []) rfl (by simp only [zi_add, zi_sub, zi_mul, zi_neg, zi_and1, zi_and7, zi_and15, zi_and31, zi_and255]) (by simp only [zi_add, zi_sub, zi_mul, zi_neg, zi_and1, zi_and7, zi_and15, zi_and31, zi_and255]) ?_
                    have hl614 : 1024 ≤ hq587.2.2.2.1 bv ∧ hq587.2.2.2.1 bv ≤ 1000000 := gJ.rowl (G := gGG) sS608.1 t591 rfl
                    have hl615 : 1024 ≤ hq587.2.2.2.1 cq555_0 ∧ hq587.2.2.2.1 cq555_0 ≤ 1000000 := gJ.rowl (G := gGG) sS608.1 t593 rfl
                    have hl616 : 1024 ≤ hq587.2.2.2.1 cq587_0 ∧ hq587.2.2.2.1 cq587_0 ≤ 1000000 := gJ.rowl (G := gGG) sS608.1 tcq587_0 rfl
                    have G617 : gSg [114] [] [56000, 56001, 56002, 56003, 71012, 71013, 71014, 114999] ty h tyq587 hq587 := gSg.ss G588 sS608 (by decide)
                    exact gz_wk (ihlp18 tyq587 hq587 cq587_0 (b + 1) fq587_0 fq587_1 fq587_2 0 (gms lp18m (by omega) (by omega)) G617 uq607 t589 t590 ecq587_0 tcq587_0 ⟨by omega, by omega⟩ ⟨by omega, by omega⟩ ⟨by omega, by omega⟩ ⟨by omega, by omega⟩ ⟨by omega, by omega⟩ (by omega) (by omega) (by omega) (by omega) (by omega) (by omega) (by omega) (by omega) (by omega) (by omega) (by omega) s595 s596 s597 s598 s599 s600 s601 s602 efq587_0 efq587_1 efq587_2 s603 pr604 pr605 htb609 hsw611 hok612) (gLw.s (gLw.s gLw.z))
                  · refine gy_ifF rfl (by decide) (by decide) (by omega) hc584 ?_
                    have htb618 := gTab.imp (Q := True) (fun _ => by omega) pr572
                    refine gy_s 4 (pc' := 86) (L' := [some (.ref x), some (.int (zi b))]) (S' := [.int ((zi b) * (zi 64)), .ref x]) (L2 := [some (.ref x), some (.int (zi b))]) (S2 := [.int (zi (b * 64)), .ref x]) rfl (by simp only [zi_add, zi_sub, zi_mul, zi_neg, zi_and1, zi_and7, zi_and15, zi_and31, zi_and255]) (by simp only [zi_add, zi_sub, zi_mul, zi_neg, zi_and1, zi_and7, zi_and15, zi_and31, zi_and255]) ?_
                    have hl619 : hq555.2.2.2.1 cq555_0 = hq555.2.2.2.1 cq555_0 := congrFun sS574.2.2.2.2.1 cq555_0
                    refine gz_call rfl (by decide) rfl (by decide) (by decide) (gcal_of rfl rfl rfl (Nat.le_of_ble_eq_true rfl) (gJ.recv (G := gGG) sS574.1 t557 rfl rfl)) (cw_refineOthers _ sS574.1 x t557 (b * 64) ⟨by omega, by omega⟩ sk s561 t558 cq555_0 ecq555_0 tcq555_0 fq555_0 efq555_0 ⟨by omega, by omega⟩ fq555_1 efq555_1 ⟨by omega, by omega⟩ fq555_2 efq555_2 ⟨by omega, by omega⟩ cg s562 ⟨by omega, by omega⟩ fr s563 ⟨by omega, by omega⟩ tt s564 ⟨by omega, by omega⟩ lw s566 ⟨by omega, by omega⟩ bs s567 ⟨by omega, by omega⟩ cf (eeM (eeF ((ewK ec96 ec79 iv fr tt hg lw cf sg (b).toNat).2)) (208 + ((b / iv) - 1) % 8)) ec79 (by omega) (by omega) (by omega) (by omega) (by omega) (by omega) (by omega) uq573 yq555_0 yq555_1 htb618 pr570) (fun q620 _ wq620 => ?_)
                    obtain ⟨pq620, oq620, hq620⟩ := q620
                    obtain ⟨tyq620, xq620, cq620_0, ttq620, fq620_0, fq620_1, fq620_2, ecq620_0, tcq620_0, gq620, efq620_0, afq620_0, bfq620_0, efq620_1, afq620_1, bfq620_1, efq620_2, afq620_2, bfq620_2, uq620_0, uq620_1, uq620_2, uq620_3, uq620_4, uq620_5, uq620_6, uq620_7, uq620_8, yq620_0, yq620_1⟩ := wq620
                    dsimp only at uq620_5 uq620_6 uq620_7 uq620_8
                    refine ⟨_, gq620, ?_⟩
                    show gz gPP gGG gcn _ _ 89 [some (.ref x), some (.int (zi b))] [] hq620 _
                    have G621 : gSg [114] [] [56000, 56001, 56002, 56003, 71012, 71013, 71014, 114999] ty h tyq620 hq620 := gSg.tr (gSg.ss G556 sS574 (by decide)) xq620 (by decide) (by decide) (fun x hx => by cases hx)
                    have t622 : tyq620 x = 71 := gSg.typ xq620 sS574.1 t557 rfl
                    have t623 : tyq620 sk = 56 := gSg.typ xq620 sS574.1 t558 rfl
                    have t624 : tyq620 bv = 114 := gSg.typ xq620 sS574.1 t559 rfl
                    have hl625 : hq620.2.2.2.1 bv = hq555.2.2.2.1 bv := gSg.len xq620 sS574.1 t559 rfl
                    have t626 : tyq620 cq555_0 = 114 := gSg.typ xq620 sS574.1 tcq555_0 rfl
                    have hl627 : hq620.2.2.2.1 cq555_0 = hq555.2.2.2.1 cq555_0 := gSg.len xq620 sS574.1 tcq555_0 rfl
                    have s628 := gSg.at xq620 sS574.1 t557 rfl (by decide) s561
                    have s629 := gSg.at xq620 sS574.1 t557 rfl (by decide) s562
                    have s630 := gSg.at xq620 sS574.1 t557 rfl (by decide) s563
                    have s631 := gSg.at xq620 sS574.1 t557 rfl (by decide) s564
                    have s632 := gSg.at xq620 sS574.1 t557 rfl (by decide) s565
                    have s633 := gSg.at xq620 sS574.1 t557 rfl (by decide) s566
                    have s634 := gSg.at xq620 sS574.1 t557 rfl (by decide) s567
                    have s635 := gSg.at xq620 sS574.1 t557 rfl (by decide) s568
                    have s636 := gSg.at xq620 sS574.1 t557 rfl (by decide) s569
                    have pr637 := gRn.gr xq620 sS574.1 rfl (by decide) (by decide) pr570
                    have pr638 := gTab.gr xq620 sS574.1 rfl rfl (fun _ => rfl) (fun _ => rfl) (by decide) (by decide) (by decide) (by decide) pr571
                    have pr639 := gTab.gr xq620 sS574.1 rfl rfl (fun _ => rfl) (fun _ => rfl) (by decide) (by decide) (by decide) (by decide) htb618
                    have uq640 := gSg.uq xq620 uq573 (by decide)
                    have sS641 : gSs rT 1027 tyq620 [56000, 56001, 56002, 56003, 71012, 71013, 71014, 114999] hq620 hq620 := gSs.rf xq620.1
                    refine gz_s 1 (pc' := 107) (L' := [some (.ref x), some (.int (zi b))]) (S' := []) rfl ?_
                    have htb642 := gTab.imp (Q := 0 < tt) (fun _ => trivial) pr639
                    have hK : ewK ec96 ec79 iv fr tt hg lw cf sg (b + 1).toNat = ((0, eeM (eeF ((ewK ec96 ec79 iv fr tt hg lw cf sg (b).toNat).2)) (208 + ((b / iv) - 1) % 8)).1, eeRz (ewS ec79) eeN lw cf (b * 64) fr tt (eeM (eeF ((ewK ec96 ec79 iv fr tt hg lw cf sg (b).toNat).2)) (208 + ((b / iv) - 1) % 8))) := by
                      rw [hbn]
                      exact ewK_s (P := (0, eeM (eeF ((ewK ec96 ec79 iv fr tt hg lw cf sg (b).toNat).2)) (208 + ((b / iv) - 1) % 8))) (F := (0, eeM (eeF ((ewK ec96 ec79 iv fr tt hg lw cf sg (b).toNat).2)) (208 + ((b / iv) - 1) % 8))) ((ewI_y (by omega) (by omega) (by first | assumption | exact Decidable.not_not.mp (by assumption))).trans (by rw [(by omega : (((b).toNat : Nat) : Int) = b)])) (ite2_2 (by omega) rfl) (ite3_1 ⟨by omega, by omega⟩ (by unfold eeRz; rw [hi1]))
                    have hK1 : (ewK ec96 ec79 iv fr tt hg lw cf sg (b + 1).toNat).1 = (0, eeM (eeF ((ewK ec96 ec79 iv fr tt hg lw cf sg (b).toNat).2)) (208 + ((b / iv) - 1) % 8)).1 := by rw [hK]
                    have hK2 : (0, eeM (eeF ((ewK ec96 ec79 iv fr tt hg lw cf sg (b).toNat).2)) (208 + ((b / iv) - 1) % 8)).1 = 0 := rfl
                    have hk643 : (ewK ec96 ec79 iv fr tt hg lw cf sg (b + 1).toNat).2 = eeRz (ewS ec79) eeN lw cf (b * 64) fr tt (eeM (eeF ((ewK ec96 ec79 iv fr tt hg lw cf sg (b).toNat).2)) (208 + ((b / iv) - 1) % 8)) := by rw [hK]
                    have hk643_1 : ((ewK ec96 ec79 iv fr tt hg lw cf sg (b + 1).toNat).2).1 = (eeRz (ewS ec79) eeN lw cf (b * 64) fr tt (eeM (eeF ((ewK ec96 ec79 iv fr tt hg lw cf sg (b).toNat).2)) (208 + ((b / iv) - 1) % 8))).1 := by rw [hk643]
                    have hk643_21 : ((ewK ec96 ec79 iv fr tt hg lw cf sg (b + 1).toNat).2).2.1 = (eeRz (ewS ec79) eeN lw cf (b * 64) fr tt (eeM (eeF ((ewK ec96 ec79 iv fr tt hg lw cf sg (b).toNat).2)) (208 + ((b / iv) - 1) % 8))).2.1 := by rw [hk643]
                    have hk643_221 : ((ewK ec96 ec79 iv fr tt hg lw cf sg (b + 1).toNat).2).2.2.1 = (eeRz (ewS ec79) eeN lw cf (b * 64) fr tt (eeM (eeF ((ewK ec96 ec79 iv fr tt hg lw cf sg (b).toNat).2)) (208 + ((b / iv) - 1) % 8))).2.2.1 := by rw [hk643]
                    have hsw644 : gSW tyq620 cq620_0 ((ewK ec96 ec79 iv fr tt hg lw cf sg (b + 1).toNat).2) hq620 := by rw [hk643]; exact yq620_0
                    have hok645 : eeOk ((ewK ec96 ec79 iv fr tt hg lw cf sg (b + 1).toNat).2) := by rw [hk643]; exact yq620_1
                    have hoc646 := hok645.cur
                    refine gy_s 2 (pc' := 7) (L' := [some (.ref x), some (.int ((zi b) + zi 1))]) (S' := []) (L2 := [some (.ref x), some (.int (zi (b + 1)))]) (S2 := []) rfl (by simp only [zi_add, zi_sub, zi_mul, zi_neg, zi_and1, zi_and7, zi_and15, zi_and31, zi_and255]) (by simp only [zi_add, zi_sub, zi_mul, zi_neg, zi_and1, zi_and7, zi_and15, zi_and31, zi_and255]) ?_
                    have hl647 : 1024 ≤ hq620.2.2.2.1 bv ∧ hq620.2.2.2.1 bv ≤ 1000000 := gJ.rowl (G := gGG) sS641.1 t624 rfl
                    have hl648 : 1024 ≤ hq620.2.2.2.1 cq555_0 ∧ hq620.2.2.2.1 cq555_0 ≤ 1000000 := gJ.rowl (G := gGG) sS641.1 t626 rfl
                    have hl649 : 1024 ≤ hq620.2.2.2.1 cq620_0 ∧ hq620.2.2.2.1 cq620_0 ≤ 1000000 := gJ.rowl (G := gGG) sS641.1 tcq620_0 rfl
                    have G650 : gSg [114] [] [56000, 56001, 56002, 56003, 71012, 71013, 71014, 114999] ty h tyq620 hq620 := gSg.ss G621 sS641 (by decide)
                    exact gz_wk (ihlp18 tyq620 hq620 cq620_0 (b + 1) fq620_0 fq620_1 fq620_2 0 (gms lp18m (by omega) (by omega)) G650 uq640 t622 t623 ecq620_0 tcq620_0 ⟨by omega, by omega⟩ ⟨by omega, by omega⟩ ⟨by omega, by omega⟩ ⟨by omega, by omega⟩ ⟨by omega, by omega⟩ (by omega) (by omega) (by omega) (by omega) (by omega) (by omega) (by omega) (by omega) (by omega) (by omega) (by omega) s628 s629 s630 s631 s632 s633 s634 s635 efq620_0 efq620_1 efq620_2 s636 pr637 pr638 htb642 hsw644 hok645) (gLw.s (gLw.s gLw.z))
              · refine gy_ifF rfl (by decide) (by decide) (by omega) hc575 ?_
                have htb651 := gTab.imp (Q := hg = 0) (fun w => ⟨by omega, w⟩) pr571
                refine gy_s 4 (pc' := 64) (L' := [some (.ref x), some (.int (zi b))]) (S' := [.int ((zi b) * (zi 64)), .ref x]) (L2 := [some (.ref x), some (.int (zi b))]) (S2 := [.int (zi (b * 64)), .ref x]) rfl (by simp only [zi_add, zi_sub, zi_mul, zi_neg, zi_and1, zi_and7, zi_and15, zi_and31, zi_and255]) (by simp only [zi_add, zi_sub, zi_mul, zi_neg, zi_and1, zi_and7, zi_and15, zi_and31, zi_and255]) ?_
                have hl652 : hq555.2.2.2.1 cq555_0 = hq555.2.2.2.1 cq555_0 := congrFun sS574.2.2.2.2.1 cq555_0
                refine gz_call rfl (by decide) rfl (by decide) (by decide) (gcal_of rfl rfl rfl (Nat.le_of_ble_eq_true rfl) (gJ.recv (G := gGG) sS574.1 t557 rfl rfl)) (cw_putFirst _ sS574.1 x t557 (b * 64) ⟨by omega, by omega⟩ sk s561 t558 cq555_0 ecq555_0 tcq555_0 fq555_0 efq555_0 ⟨by omega, by omega⟩ fq555_1 efq555_1 ⟨by omega, by omega⟩ fq555_2 efq555_2 ⟨by omega, by omega⟩ cg s562 ⟨by omega, by omega⟩ lw s566 ⟨by omega, by omega⟩ hg s565 ⟨by omega, by omega⟩ bs s567 ⟨by omega, by omega⟩ 0 s569 ⟨by omega, by omega⟩ cf (eeM (eeF ((ewK ec96 ec79 iv fr tt hg lw cf sg (b).toNat).2)) (208 + ((b / iv) - 1) % 8)) ec96 (by omega) (by omega) (by omega) (by omega) (by omega) (by omega) uq573 yq555_0 yq555_1 pr570 htb651) (fun q653 _ wq653 => ?_)
                obtain ⟨pq653, oq653, hq653⟩ := q653
                obtain ⟨tyq653, xq653, cq653_0, ttq653, fq653_0, fq653_1, fq653_2, fq653_3, ecq653_0, tcq653_0, gq653, efq653_0, afq653_0, bfq653_0, efq653_1, afq653_1, bfq653_1, efq653_2, afq653_2, bfq653_2, efq653_3, afq653_3, bfq653_3, uq653_0, uq653_1, uq653_2, uq653_3, uq653_4, uq653_5, uq653_6, uq653_7, uq653_8, uq653_9, yq653_0, yq653_1⟩ := wq653
                dsimp only at uq653_5 uq653_6 uq653_7 uq653_9
                refine ⟨_, gq653, ?_⟩
                show gz gPP gGG gcn _ _ 67 [some (.ref x), some (.int (zi b))] [] hq653 _
                have G654 : gSg [114] [] [56000, 56001, 56002, 56003, 71012, 71013, 71014, 114999] ty h tyq653 hq653 := gSg.tr (gSg.ss G556 sS574 (by decide)) xq653 (by decide) (by decide) (fun x hx => by cases hx)
                have t655 : tyq653 x = 71 := gSg.typ xq653 sS574.1 t557 rfl
                have t656 : tyq653 sk = 56 := gSg.typ xq653 sS574.1 t558 rfl
                have t657 : tyq653 bv = 114 := gSg.typ xq653 sS574.1 t559 rfl
                have hl658 : hq653.2.2.2.1 bv = hq555.2.2.2.1 bv := gSg.len xq653 sS574.1 t559 rfl
                have t659 : tyq653 cq555_0 = 114 := gSg.typ xq653 sS574.1 tcq555_0 rfl
                have hl660 : hq653.2.2.2.1 cq555_0 = hq555.2.2.2.1 cq555_0 := gSg.len xq653 sS574.1 tcq555_0 rfl
                have s661 := gSg.at xq653 sS574.1 t557 rfl (by decide) s561
                have s662 := gSg.at xq653 sS574.1 t557 rfl (by decide) s562
                have s663 := gSg.at xq653 sS574.1 t557 rfl (by decide) s563
                have s664 := gSg.at xq653 sS574.1 t557 rfl (by decide) s564
                have s665 := gSg.at xq653 sS574.1 t557 rfl (by decide) s565
                have s666 := gSg.at xq653 sS574.1 t557 rfl (by decide) s566
                have s667 := gSg.at xq653 sS574.1 t557 rfl (by decide) s567
                have s668 := gSg.at xq653 sS574.1 t557 rfl (by decide) s568
                have pr669 := gRn.gr xq653 sS574.1 rfl (by decide) (by decide) pr570
                have pr670 := gTab.gr xq653 sS574.1 rfl rfl (fun _ => rfl) (fun _ => rfl) (by decide) (by decide) (by decide) (by decide) htb651
                have pr671 := gTab.gr xq653 sS574.1 rfl rfl (fun _ => rfl) (fun _ => rfl) (by decide) (by decide) (by decide) (by decide) pr572
                have uq672 := gSg.uq xq653 uq573 (by decide)
                have sS673 : gSs rT 1027 tyq653 [56000, 56001, 56002, 56003, 71012, 71013, 71014, 114999] hq653 hq653 := gSs.rf xq653.1
                have htb674 := gTab.imp (Q := fr = 0 ∧ hg = 0) (fun w => w.2) pr670
                refine gz_s 1 (pc' := 68) (L' := [some (.ref x), some (.int (zi b))]) (S' := [.ref x]) rfl ?_
                refine gs_gtk rfl (by decide) rfl sS673.1 t655 rfl rfl s664 ?_
                by_cases hc675 : (tt : Int) ≤ 0
                · refine gy_ifT (pc' := 92) rfl (by decide) (by decide) (by omega) hc675 ?_
                  refine gz_s 1 (pc' := 93) (L' := [some (.ref x), some (.int (zi b))]) (S' := [.ref x]) rfl ?_
                  refine gs_gtk rfl (by decide) rfl sS673.1 t655 rfl rfl s664 ?_
                  refine gy_ifT (pc' := 107) rfl (by decide) (by decide) ⟨by omega, by omega⟩ (by first | (simp [zc]; done) | (simp only [zc]; omega)) ?_
                  have hK : ewK ec96 ec79 iv fr tt hg lw cf sg (b + 1).toNat = ((eeFi (ewS ec96) eeN lw hg (cf ((b * 64)).toNat) 0 (eeM (eeF ((ewK ec96 ec79 iv fr tt hg lw cf sg (b).toNat).2)) (208 + ((b / iv) - 1) % 8))).1, (eeFi (ewS ec96) eeN lw hg (cf ((b * 64)).toNat) 0 (eeM (eeF ((ewK ec96 ec79 iv fr tt hg lw cf sg (b).toNat).2)) (208 + ((b / iv) - 1) % 8))).2) := by
                    rw [hbn]
                    exact ewK_s (P := (0, eeM (eeF ((ewK ec96 ec79 iv fr tt hg lw cf sg (b).toNat).2)) (208 + ((b / iv) - 1) % 8))) (F := (eeFi (ewS ec96) eeN lw hg (cf ((b * 64)).toNat) 0 (eeM (eeF ((ewK ec96 ec79 iv fr tt hg lw cf sg (b).toNat).2)) (208 + ((b / iv) - 1) % 8)))) ((ewI_y (by omega) (by omega) (by first | assumption | exact Decidable.not_not.mp (by assumption))).trans (by rw [(by omega : (((b).toNat : Nat) : Int) = b)])) (ite2_1 (by omega) (by rw [hi0])) (ite3_3 (by omega) (by omega) rfl)
                  have hK1 : (ewK ec96 ec79 iv fr tt hg lw cf sg (b + 1).toNat).1 = (eeFi (ewS ec96) eeN lw hg (cf ((b * 64)).toNat) 0 (eeM (eeF ((ewK ec96 ec79 iv fr tt hg lw cf sg (b).toNat).2)) (208 + ((b / iv) - 1) % 8))).1 := by rw [hK]
                  have hk676 : (ewK ec96 ec79 iv fr tt hg lw cf sg (b + 1).toNat).2 = (eeFi (ewS ec96) eeN lw hg (cf ((b * 64)).toNat) 0 (eeM (eeF ((ewK ec96 ec79 iv fr tt hg lw cf sg (b).toNat).2)) (208 + ((b / iv) - 1) % 8))).2 := by rw [hK]
                  have hk676_1 : ((ewK ec96 ec79 iv fr tt hg lw cf sg (b + 1).toNat).2).1 = ((eeFi (ewS ec96) eeN lw hg (cf ((b * 64)).toNat) 0 (eeM (eeF ((ewK ec96 ec79 iv fr tt hg lw cf sg (b).toNat).2)) (208 + ((b / iv) - 1) % 8))).2).1 := by rw [hk676]
                  have hk676_21 : ((ewK ec96 ec79 iv fr tt hg lw cf sg (b + 1).toNat).2).2.1 = ((eeFi (ewS ec96) eeN lw hg (cf ((b * 64)).toNat) 0 (eeM (eeF ((ewK ec96 ec79 iv fr tt hg lw cf sg (b).toNat).2)) (208 + ((b / iv) - 1) % 8))).2).2.1 := by rw [hk676]
                  have hk676_221 : ((ewK ec96 ec79 iv fr tt hg lw cf sg (b + 1).toNat).2).2.2.1 = ((eeFi (ewS ec96) eeN lw hg (cf ((b * 64)).toNat) 0 (eeM (eeF ((ewK ec96 ec79 iv fr tt hg lw cf sg (b).toNat).2)) (208 + ((b / iv) - 1) % 8))).2).2.2.1 := by rw [hk676]
                  have hsw677 : gSW tyq653 cq653_0 ((ewK ec96 ec79 iv fr tt hg lw cf sg (b + 1).toNat).2) hq653 := by rw [hk676]; exact yq653_0
                  have hok678 : eeOk ((ewK ec96 ec79 iv fr tt hg lw cf sg (b + 1).toNat).2) := by rw [hk676]; exact yq653_1
                  have hoc679 := hok678.cur
                  refine gy_s 2 (pc' := 7) (L' := [some (.ref x), some (.int ((zi b) + zi 1))]) (S' := []) (L2 := [some (.ref x), some (.int (zi (b + 1)))]) (S2 := []) rfl (by simp only [zi_add, zi_sub, zi_mul, zi_neg, zi_and1, zi_and7, zi_and15, zi_and31, zi_and255]) (by simp only [zi_add, zi_sub, zi_mul, zi_neg, zi_and1, zi_and7, zi_and15, zi_and31, zi_and255]) ?_
                  have hl680 : 1024 ≤ hq653.2.2.2.1 bv ∧ hq653.2.2.2.1 bv ≤ 1000000 := gJ.rowl (G := gGG) sS673.1 t657 rfl
                  have hl681 : 1024 ≤ hq653.2.2.2.1 cq555_0 ∧ hq653.2.2.2.1 cq555_0 ≤ 1000000 := gJ.rowl (G := gGG) sS673.1 t659 rfl
                  have hl682 : 1024 ≤ hq653.2.2.2.1 cq653_0 ∧ hq653.2.2.2.1 cq653_0 ≤ 1000000 := gJ.rowl (G := gGG) sS673.1 tcq653_0 rfl
                  have G683 : gSg [114] [] [56000, 56001, 56002, 56003, 71012, 71013, 71014, 114999] ty h tyq653 hq653 := gSg.ss G654 sS673 (by decide)
                  exact gz_wk (ihlp18 tyq653 hq653 cq653_0 (b + 1) fq653_0 fq653_1 fq653_2 fq653_3 (gms lp18m (by omega) (by omega)) G683 uq672 t655 t656 ecq653_0 tcq653_0 ⟨by omega, by omega⟩ ⟨by omega, by omega⟩ ⟨by omega, by omega⟩ ⟨by omega, by omega⟩ ⟨by omega, by omega⟩ (by omega) (by omega) (by omega) (by omega) (by omega) (by omega) (by omega) (by omega) (by omega) (by omega) (by omega) s661 s662 s663 s664 s665 s666 s667 s668 efq653_0 efq653_1 efq653_2 efq653_3 pr669 htb674 pr671 hsw677 hok678) (gLw.s (gLw.s gLw.z))
                · refine gy_ifF rfl (by decide) (by decide) (by omega) hc675 ?_
                  refine gz_s 1 (pc' := 75) (L' := [some (.ref x), some (.int (zi b))]) (S' := [.ref x]) rfl ?_
                  refine gs_gtk rfl (by decide) rfl sS673.1 t655 rfl rfl s665 ?_
                  by_cases hc684 : (hg : Int) ≤ 0
                  · refine gy_ifT (pc' := 92) rfl (by decide) (by decide) (by omega) hc684 ?_
                    refine gz_s 1 (pc' := 93) (L' := [some (.ref x), some (.int (zi b))]) (S' := [.ref x]) rfl ?_
                    refine gs_gtk rfl (by decide) rfl sS673.1 t655 rfl rfl s664 ?_
                    refine gy_ifF rfl (by decide) (by decide) ⟨by omega, by omega⟩ (by first | (simp [zc]; done) | (simp only [zc]; omega)) ?_
                    have htb685 := gTab.imp (Q := True) (fun _ => by omega) pr671
                    refine gy_s 4 (pc' := 104) (L' := [some (.ref x), some (.int (zi b))]) (S' := [.int ((zi b) * (zi 64)), .ref x]) (L2 := [some (.ref x), some (.int (zi b))]) (S2 := [.int (zi (b * 64)), .ref x]) rfl (by simp only [zi_add, zi_sub, zi_mul, zi_neg, zi_and1, zi_and7, zi_and15, zi_and31, zi_and255]) (by simp only [zi_add, zi_sub, zi_mul, zi_neg, zi_and1, zi_and7, zi_and15, zi_and31, zi_and255]) ?_
                    have hl686 : hq653.2.2.2.1 cq653_0 = hq653.2.2.2.1 cq653_0 := congrFun sS673.2.2.2.2.1 cq653_0
                    refine gz_call rfl (by decide) rfl (by decide) (by decide) (gcal_of rfl rfl rfl (Nat.le_of_ble_eq_true rfl) (gJ.recv (G := gGG) sS673.1 t655 rfl rfl)) (cw_putOthers _ sS673.1 x t655 (b * 64) ⟨by omega, by omega⟩ sk s661 t656 cq653_0 ecq653_0 tcq653_0 fq653_0 efq653_0 ⟨by omega, by omega⟩ fq653_1 efq653_1 ⟨by omega, by omega⟩ fq653_2 efq653_2 ⟨by omega, by omega⟩ cg s662 ⟨by omega, by omega⟩ fr s663 ⟨by omega, by omega⟩ tt s664 ⟨by omega, by omega⟩ lw s666 ⟨by omega, by omega⟩ bs s667 ⟨by omega, by omega⟩ cf ((eeFi (ewS ec96) eeN lw hg (cf ((b * 64)).toNat) 0 (eeM (eeF ((ewK ec96 ec79 iv fr tt hg lw cf sg (b).toNat).2)) (208 + ((b / iv) - 1) % 8))).2) ec79 (by omega) (by omega) (by omega) (by omega) (by omega) (by omega) (by omega) (by omega) uq672 yq653_0 yq653_1 htb685 pr669) (fun q687 _ wq687 => ?_)
                    obtain ⟨pq687, oq687, hq687⟩ := q687
                    obtain ⟨tyq687, xq687, cq687_0, ttq687, fq687_0, fq687_1, fq687_2, ecq687_0, tcq687_0, gq687, efq687_0, afq687_0, bfq687_0, efq687_1, afq687_1, bfq687_1, efq687_2, afq687_2, bfq687_2, uq687_0, uq687_1, uq687_2, uq687_3, uq687_4, uq687_5, uq687_6, uq687_7, uq687_8, yq687_0, yq687_1⟩ := wq687
                    dsimp only at uq687_5 uq687_6 uq687_7 uq687_8
                    refine ⟨_, gq687, ?_⟩
                    show gz gPP gGG gcn _ _ 107 [some (.ref x), some (.int (zi b))] [] hq687 _
                    have G688 : gSg [114] [] [56000, 56001, 56002, 56003, 71012, 71013, 71014, 114999] ty h tyq687 hq687 := gSg.tr (gSg.ss G654 sS673 (by decide)) xq687 (by decide) (by decide) (fun x hx => by cases hx)
                    have t689 : tyq687 x = 71 := gSg.typ xq687 sS673.1 t655 rfl
                    have t690 : tyq687 sk = 56 := gSg.typ xq687 sS673.1 t656 rfl
                    have t691 : tyq687 bv = 114 := gSg.typ xq687 sS673.1 t657 rfl
                    have hl692 : hq687.2.2.2.1 bv = hq653.2.2.2.1 bv := gSg.len xq687 sS673.1 t657 rfl
                    have t693 : tyq687 cq555_0 = 114 := gSg.typ xq687 sS673.1 t659 rfl
                    have hl694 : hq687.2.2.2.1 cq555_0 = hq653.2.2.2.1 cq555_0 := gSg.len xq687 sS673.1 t659 rfl
                    have t695 : tyq687 cq653_0 = 114 := gSg.typ xq687 sS673.1 tcq653_0 rfl
                    have hl696 : hq687.2.2.2.1 cq653_0 = hq653.2.2.2.1 cq653_0 := gSg.len xq687 sS673.1 tcq653_0 rfl
                    have s697 := gSg.at xq687 sS673.1 t655 rfl (by decide) s661
                    have s698 := gSg.at xq687 sS673.1 t655 rfl (by decide) s662
                    have s699 := gSg.at xq687 sS673.1 t655 rfl (by decide) s663
                    have s700 := gSg.at xq687 sS673.1 t655 rfl (by decide) s664
                    have s701 := gSg.at xq687 sS673.1 t655 rfl (by decide) s665
                    have s702 := gSg.at xq687 sS673.1 t655 rfl (by decide) s666
                    have s703 := gSg.at xq687 sS673.1 t655 rfl (by decide) s667
                    have s704 := gSg.at xq687 sS673.1 t655 rfl (by decide) s668
                    have s705 := gSg.at xq687 sS673.1 t655 rfl (by decide) efq653_3
                    have pr706 := gRn.gr xq687 sS673.1 rfl (by decide) (by decide) pr669
                    have pr707 := gTab.gr xq687 sS673.1 rfl rfl (fun _ => rfl) (fun _ => rfl) (by decide) (by decide) (by decide) (by decide) htb674
                    have pr708 := gTab.gr xq687 sS673.1 rfl rfl (fun _ => rfl) (fun _ => rfl) (by decide) (by decide) (by decide) (by decide) htb685
                    have uq709 := gSg.uq xq687 uq672 (by decide)
                    have sS710 : gSs rT 1027 tyq687 [56000, 56001, 56002, 56003, 71012, 71013, 71014, 114999] hq687 hq687 := gSs.rf xq687.1
                    have htb711 := gTab.imp (Q := 0 < tt) (fun _ => trivial) pr708
                    have hK : ewK ec96 ec79 iv fr tt hg lw cf sg (b + 1).toNat = ((eeFi (ewS ec96) eeN lw hg (cf ((b * 64)).toNat) 0 (eeM (eeF ((ewK ec96 ec79 iv fr tt hg lw cf sg (b).toNat).2)) (208 + ((b / iv) - 1) % 8))).1, eeOt (ewS ec79) eeN lw cf ((b * 64) + (if 1 ≤ fr then fr else 1)).toNat (tt - (if 1 ≤ fr then fr else 1) + 1).toNat ((eeFi (ewS ec96) eeN lw hg (cf ((b * 64)).toNat) 0 (eeM (eeF ((ewK ec96 ec79 iv fr tt hg lw cf sg (b).toNat).2)) (208 + ((b / iv) - 1) % 8))).2)) := by
                      rw [hbn]
                      exact ewK_s (P := (0, eeM (eeF ((ewK ec96 ec79 iv fr tt hg lw cf sg (b).toNat).2)) (208 + ((b / iv) - 1) % 8))) (F := (eeFi (ewS ec96) eeN lw hg (cf ((b * 64)).toNat) 0 (eeM (eeF ((ewK ec96 ec79 iv fr tt hg lw cf sg (b).toNat).2)) (208 + ((b / iv) - 1) % 8)))) ((ewI_y (by omega) (by omega) (by first | assumption | exact Decidable.not_not.mp (by assumption))).trans (by rw [(by omega : (((b).toNat : Nat) : Int) = b)])) (ite2_1 (by omega) (by rw [hi0])) (ite3_2 (by omega) (by omega) (by rw [hi2]))
                    have hK1 : (ewK ec96 ec79 iv fr tt hg lw cf sg (b + 1).toNat).1 = (eeFi (ewS ec96) eeN lw hg (cf ((b * 64)).toNat) 0 (eeM (eeF ((ewK ec96 ec79 iv fr tt hg lw cf sg (b).toNat).2)) (208 + ((b / iv) - 1) % 8))).1 := by rw [hK]
                    have hk712 : (ewK ec96 ec79 iv fr tt hg lw cf sg (b + 1).toNat).2 = eeOt (ewS ec79) eeN lw cf ((b * 64) + (if 1 ≤ fr then fr else 1)).toNat (tt - (if 1 ≤ fr then fr else 1) + 1).toNat ((eeFi (ewS ec96) eeN lw hg (cf ((b * 64)).toNat) 0 (eeM (eeF ((ewK ec96 ec79 iv fr tt hg lw cf sg (b).toNat).2)) (208 + ((b / iv) - 1) % 8))).2) := by rw [hK]
                    have hk712_1 : ((ewK ec96 ec79 iv fr tt hg lw cf sg (b + 1).toNat).2).1 = (eeOt (ewS ec79) eeN lw cf ((b * 64) + (if 1 ≤ fr then fr else 1)).toNat (tt - (if 1 ≤ fr then fr else 1) + 1).toNat ((eeFi (ewS ec96) eeN lw hg (cf ((b * 64)).toNat) 0 (eeM (eeF ((ewK ec96 ec79 iv fr tt hg lw cf sg (b).toNat).2)) (208 + ((b / iv) - 1) % 8))).2)).1 := by rw [hk712]
                    have hk712_21 : ((ewK ec96 ec79 iv fr tt hg lw cf sg (b + 1).toNat).2).2.1 = (eeOt (ewS ec79) eeN lw cf ((b * 64) + (if 1 ≤ fr then fr else 1)).toNat (tt - (if 1 ≤ fr then fr else 1) + 1).toNat ((eeFi (ewS ec96) eeN lw hg (cf ((b * 64)).toNat) 0 (eeM (eeF ((ewK ec96 ec79 iv fr tt hg lw cf sg (b).toNat).2)) (208 + ((b / iv) - 1) % 8))).2)).2.1 := by rw [hk712]
                    have hk712_221 : ((ewK ec96 ec79 iv fr tt hg lw cf sg (b + 1).toNat).2).2.2.1 = (eeOt (ewS ec79) eeN lw cf ((b * 64) + (if 1 ≤ fr then fr else 1)).toNat (tt - (if 1 ≤ fr then fr else 1) + 1).toNat ((eeFi (ewS ec96) eeN lw hg (cf ((b * 64)).toNat) 0 (eeM (eeF ((ewK ec96 ec79 iv fr tt hg lw cf sg (b).toNat).2)) (208 + ((b / iv) - 1) % 8))).2)).2.2.1 := by rw [hk712]
                    have hsw713 : gSW tyq687 cq687_0 ((ewK ec96 ec79 iv fr tt hg lw cf sg (b + 1).toNat).2) hq687 := by rw [hk712]; exact yq687_0
                    have hok714 : eeOk ((ewK ec96 ec79 iv fr tt hg lw cf sg (b + 1).toNat).2) := by rw [hk712]; exact yq687_1
                    have hoc715 := hok714.cur
                    refine gy_s 2 (pc' := 7) (L' := [some (.ref x), some (.int ((zi b) + zi 1))]) (S' := []) (L2 := [some (.ref x), some (.int (zi (b + 1)))]) (S2 := []) rfl (by simp only [zi_add, zi_sub, zi_mul, zi_neg, zi_and1, zi_and7, zi_and15, zi_and31, zi_and255]) (by simp only [zi_add, zi_sub, zi_mul, zi_neg, zi_and1, zi_and7, zi_and15, zi_and31, zi_and255]) ?_
                    have hl716 : 1024 ≤ hq687.2.2.2.1 bv ∧ hq687.2.2.2.1 bv ≤ 1000000 := gJ.rowl (G := gGG) sS710.1 t691 rfl
                    have hl717 : 1024 ≤ hq687.2.2.2.1 cq555_0 ∧ hq687.2.2.2.1 cq555_0 ≤ 1000000 := gJ.rowl (G := gGG) sS710.1 t693 rfl
                    have hl718 : 1024 ≤ hq687.2.2.2.1 cq653_0 ∧ hq687.2.2.2.1 cq653_0 ≤ 1000000 := gJ.rowl (G := gGG) sS710.1 t695 rfl
                    have hl719 : 1024 ≤ hq687.2.2.2.1 cq687_0 ∧ hq687.2.2.2.1 cq687_0 ≤ 1000000 := gJ.rowl (G := gGG) sS710.1 tcq687_0 rfl
                    have G720 : gSg [114] [] [56000, 56001, 56002, 56003, 71012, 71013, 71014, 114999] ty h tyq687 hq687 := gSg.ss G688 sS710 (by decide)
                    exact gz_wk (ihlp18 tyq687 hq687 cq687_0 (b + 1) fq687_0 fq687_1 fq687_2 fq653_3 (gms lp18m (by omega) (by omega)) G720 uq709 t689 t690 ecq687_0 tcq687_0 ⟨by omega, by omega⟩ ⟨by omega, by omega⟩ ⟨by omega, by omega⟩ ⟨by omega, by omega⟩ ⟨by omega, by omega⟩ (by omega) (by omega) (by omega) (by omega) (by omega) (by omega) (by omega) (by omega) (by omega) (by omega) (by omega) s697 s698 s699 s700 s701 s702 s703 s704 efq687_0 efq687_1 efq687_2 s705 pr706 pr707 htb711 hsw713 hok714) (gLw.s (gLw.s gLw.z))
                  · refine gy_ifF rfl (by decide) (by decide) (by omega) hc684 ?_
                    have htb721 := gTab.imp (Q := True) (fun _ => by omega) pr671
                    refine gy_s 4 (pc' := 86) (L' := [some (.ref x), some (.int (zi b))]) (S' := [.int ((zi b) * (zi 64)), .ref x]) (L2 := [some (.ref x), some (.int (zi b))]) (S2 := [.int (zi (b * 64)), .ref x]) rfl (by simp only [zi_add, zi_sub, zi_mul, zi_neg, zi_and1, zi_and7, zi_and15, zi_and31, zi_and255]) (by simp only [zi_add, zi_sub, zi_mul, zi_neg, zi_and1, zi_and7, zi_and15, zi_and31, zi_and255]) ?_
                    have hl722 : hq653.2.2.2.1 cq653_0 = hq653.2.2.2.1 cq653_0 := congrFun sS673.2.2.2.2.1 cq653_0
                    refine gz_call rfl (by decide) rfl (by decide) (by decide) (gcal_of rfl rfl rfl (Nat.le_of_ble_eq_true rfl) (gJ.recv (G := gGG) sS673.1 t655 rfl rfl)) (cw_refineOthers _ sS673.1 x t655 (b * 64) ⟨by omega, by omega⟩ sk s661 t656 cq653_0 ecq653_0 tcq653_0 fq653_0 efq653_0 ⟨by omega, by omega⟩ fq653_1 efq653_1 ⟨by omega, by omega⟩ fq653_2 efq653_2 ⟨by omega, by omega⟩ cg s662 ⟨by omega, by omega⟩ fr s663 ⟨by omega, by omega⟩ tt s664 ⟨by omega, by omega⟩ lw s666 ⟨by omega, by omega⟩ bs s667 ⟨by omega, by omega⟩ cf ((eeFi (ewS ec96) eeN lw hg (cf ((b * 64)).toNat) 0 (eeM (eeF ((ewK ec96 ec79 iv fr tt hg lw cf sg (b).toNat).2)) (208 + ((b / iv) - 1) % 8))).2) ec79 (by omega) (by omega) (by omega) (by omega) (by omega) (by omega) (by omega) uq672 yq653_0 yq653_1 htb721 pr669) (fun q723 _ wq723 => ?_)
                    obtain ⟨pq723, oq723, hq723⟩ := q723
                    obtain ⟨tyq723, xq723, cq723_0, ttq723, fq723_0, fq723_1, fq723_2, ecq723_0, tcq723_0, gq723, efq723_0, afq723_0, bfq723_0, efq723_1, afq723_1, bfq723_1, efq723_2, afq723_2, bfq723_2, uq723_0, uq723_1, uq723_2, uq723_3, uq723_4, uq723_5, uq723_6, uq723_7, uq723_8, yq723_0, yq723_1⟩ := wq723
                    dsimp only at uq723_5 uq723_6 uq723_7 uq723_8
                    refine ⟨_, gq723, ?_⟩
                    show gz gPP gGG gcn _ _ 89 [some (.ref x), some (.int (zi b))] [] hq723 _
                    have G724 : gSg [114] [] [56000, 56001, 56002, 56003, 71012, 71013, 71014, 114999] ty h tyq723 hq723 := gSg.tr (gSg.ss G654 sS673 (by decide)) xq723 (by decide) (by decide) (fun x hx => by cases hx)
                    have t725 : tyq723 x = 71 := gSg.typ xq723 sS673.1 t655 rfl
                    have t726 : tyq723 sk = 56 := gSg.typ xq723 sS673.1 t656 rfl
                    have t727 : tyq723 bv = 114 := gSg.typ xq723 sS673.1 t657 rfl
                    have hl728 : hq723.2.2.2.1 bv = hq653.2.2.2.1 bv := gSg.len xq723 sS673.1 t657 rfl
                    have t729 : tyq723 cq555_0 = 114 := gSg.typ xq723 sS673.1 t659 rfl
                    have hl730 : hq723.2.2.2.1 cq555_0 = hq653.2.2.2.1 cq555_0 := gSg.len xq723 sS673.1 t659 rfl
                    have t731 : tyq723 cq653_0 = 114 := gSg.typ xq723 sS673.1 tcq653_0 rfl
                    have hl732 : hq723.2.2.2.1 cq653_0 = hq653.2.2.2.1 cq653_0 := gSg.len xq723 sS673.1 tcq653_0 rfl
                    have s733 := gSg.at xq723 sS673.1 t655 rfl (by decide) s661
                    have s734 := gSg.at xq723 sS673.1 t655 rfl (by decide) s662
                    have s735 := gSg.at xq723 sS673.1 t655 rfl (by decide) s663
                    have s736 := gSg.at xq723 sS673.1 t655 rfl (by decide) s664
                    have s737 := gSg.at xq723 sS673.1 t655 rfl (by decide) s665
                    have s738 := gSg.at xq723 sS673.1 t655 rfl (by decide) s666
                    have s739 := gSg.at xq723 sS673.1 t655 rfl (by decide) s667
                    have s740 := gSg.at xq723 sS673.1 t655 rfl (by decide) s668
                    have s741 := gSg.at xq723 sS673.1 t655 rfl (by decide) efq653_3
                    have pr742 := gRn.gr xq723 sS673.1 rfl (by decide) (by decide) pr669
                    have pr743 := gTab.gr xq723 sS673.1 rfl rfl (fun _ => rfl) (fun _ => rfl) (by decide) (by decide) (by decide) (by decide) htb674
                    have pr744 := gTab.gr xq723 sS673.1 rfl rfl (fun _ => rfl) (fun _ => rfl) (by decide) (by decide) (by decide) (by decide) htb721
                    have uq745 := gSg.uq xq723 uq672 (by decide)
                    have sS746 : gSs rT 1027 tyq723 [56000, 56001, 56002, 56003, 71012, 71013, 71014, 114999] hq723 hq723 := gSs.rf xq723.1
                    refine gz_s 1 (pc' := 107) (L' := [some (.ref x), some (.int (zi b))]) (S' := []) rfl ?_
                    have htb747 := gTab.imp (Q := 0 < tt) (fun _ => trivial) pr744
                    have hK : ewK ec96 ec79 iv fr tt hg lw cf sg (b + 1).toNat = ((eeFi (ewS ec96) eeN lw hg (cf ((b * 64)).toNat) 0 (eeM (eeF ((ewK ec96 ec79 iv fr tt hg lw cf sg (b).toNat).2)) (208 + ((b / iv) - 1) % 8))).1, eeRz (ewS ec79) eeN lw cf (b * 64) fr tt ((eeFi (ewS ec96) eeN lw hg (cf ((b * 64)).toNat) 0 (eeM (eeF ((ewK ec96 ec79 iv fr tt hg lw cf sg (b).toNat).2)) (208 + ((b / iv) - 1) % 8))).2)) := by
                      rw [hbn]
                      exact ewK_s (P := (0, eeM (eeF ((ewK ec96 ec79 iv fr tt hg lw cf sg (b).toNat).2)) (208 + ((b / iv) - 1) % 8))) (F := (eeFi (ewS ec96) eeN lw hg (cf ((b * 64)).toNat) 0 (eeM (eeF ((ewK ec96 ec79 iv fr tt hg lw cf sg (b).toNat).2)) (208 + ((b / iv) - 1) % 8)))) ((ewI_y (by omega) (by omega) (by first | assumption | exact Decidable.not_not.mp (by assumption))).trans (by rw [(by omega : (((b).toNat : Nat) : Int) = b)])) (ite2_1 (by omega) (by rw [hi0])) (ite3_1 ⟨by omega, by omega⟩ (by unfold eeRz; rw [hi1]))
                    have hK1 : (ewK ec96 ec79 iv fr tt hg lw cf sg (b + 1).toNat).1 = (eeFi (ewS ec96) eeN lw hg (cf ((b * 64)).toNat) 0 (eeM (eeF ((ewK ec96 ec79 iv fr tt hg lw cf sg (b).toNat).2)) (208 + ((b / iv) - 1) % 8))).1 := by rw [hK]
                    have hk748 : (ewK ec96 ec79 iv fr tt hg lw cf sg (b + 1).toNat).2 = eeRz (ewS ec79) eeN lw cf (b * 64) fr tt ((eeFi (ewS ec96) eeN lw hg (cf ((b * 64)).toNat) 0 (eeM (eeF ((ewK ec96 ec79 iv fr tt hg lw cf sg (b).toNat).2)) (208 + ((b / iv) - 1) % 8))).2) := by rw [hK]
                    have hk748_1 : ((ewK ec96 ec79 iv fr tt hg lw cf sg (b + 1).toNat).2).1 = (eeRz (ewS ec79) eeN lw cf (b * 64) fr tt ((eeFi (ewS ec96) eeN lw hg (cf ((b * 64)).toNat) 0 (eeM (eeF ((ewK ec96 ec79 iv fr tt hg lw cf sg (b).toNat).2)) (208 + ((b / iv) - 1) % 8))).2)).1 := by rw [hk748]
                    have hk748_21 : ((ewK ec96 ec79 iv fr tt hg lw cf sg (b + 1).toNat).2).2.1 = (eeRz (ewS ec79) eeN lw cf (b * 64) fr tt ((eeFi (ewS ec96) eeN lw hg (cf ((b * 64)).toNat) 0 (eeM (eeF ((ewK ec96 ec79 iv fr tt hg lw cf sg (b).toNat).2)) (208 + ((b / iv) - 1) % 8))).2)).2.1 := by rw [hk748]
                    have hk748_221 : ((ewK ec96 ec79 iv fr tt hg lw cf sg (b + 1).toNat).2).2.2.1 = (eeRz (ewS ec79) eeN lw cf (b * 64) fr tt ((eeFi (ewS ec96) eeN lw hg (cf ((b * 64)).toNat) 0 (eeM (eeF ((ewK ec96 ec79 iv fr tt hg lw cf sg (b).toNat).2)) (208 + ((b / iv) - 1) % 8))).2)).2.2.1 := by rw [hk748]
                    have hsw749 : gSW tyq723 cq723_0 ((ewK ec96 ec79 iv fr tt hg lw cf sg (b + 1).toNat).2) hq723 := by rw [hk748]; exact yq723_0
                    have hok750 : eeOk ((ewK ec96 ec79 iv fr tt hg lw cf sg (b + 1).toNat).2) := by rw [hk748]; exact yq723_1
                    have hoc751 := hok750.cur
                    refine gy_s 2 (pc' := 7) (L' := [some (.ref x), some (.int ((zi b) + zi 1))]) (S' := []) (L2 := [some (.ref x), some (.int (zi (b + 1)))]) (S2 := []) rfl (by simp only [zi_add, zi_sub, zi_mul, zi_neg, zi_and1, zi_and7, zi_and15, zi_and31, zi_and255]) (by simp only [zi_add, zi_sub, zi_mul, zi_neg, zi_and1, zi_and7, zi_and15, zi_and31, zi_and255]) ?_
                    have hl752 : 1024 ≤ hq723.2.2.2.1 bv ∧ hq723.2.2.2.1 bv ≤ 1000000 := gJ.rowl (G := gGG) sS746.1 t727 rfl
                    have hl753 : 1024 ≤ hq723.2.2.2.1 cq555_0 ∧ hq723.2.2.2.1 cq555_0 ≤ 1000000 := gJ.rowl (G := gGG) sS746.1 t729 rfl
                    have hl754 : 1024 ≤ hq723.2.2.2.1 cq653_0 ∧ hq723.2.2.2.1 cq653_0 ≤ 1000000 := gJ.rowl (G := gGG) sS746.1 t731 rfl
                    have hl755 : 1024 ≤ hq723.2.2.2.1 cq723_0 ∧ hq723.2.2.2.1 cq723_0 ≤ 1000000 := gJ.rowl (G := gGG) sS746.1 tcq723_0 rfl
                    have G756 : gSg [114] [] [56000, 56001, 56002, 56003, 71012, 71013, 71014, 114999] ty h tyq723 hq723 := gSg.ss G724 sS746 (by decide)
                    exact gz_wk (ihlp18 tyq723 hq723 cq723_0 (b + 1) fq723_0 fq723_1 fq723_2 fq653_3 (gms lp18m (by omega) (by omega)) G756 uq745 t725 t726 ecq723_0 tcq723_0 ⟨by omega, by omega⟩ ⟨by omega, by omega⟩ ⟨by omega, by omega⟩ ⟨by omega, by omega⟩ ⟨by omega, by omega⟩ (by omega) (by omega) (by omega) (by omega) (by omega) (by omega) (by omega) (by omega) (by omega) (by omega) (by omega) s733 s734 s735 s736 s737 s738 s739 s740 efq723_0 efq723_1 efq723_2 s741 pr742 pr743 htb747 hsw749 hok750) (gLw.s (gLw.s gLw.z))
  have hx0 : (0 : Int) * (656 + 320 * (tt - fr)) = 0 := Int.zero_mul _
  have hK0 : (ewK ec96 ec79 iv fr tt hg lw cf sg (0 : Int).toNat).1 = 0 := rfl
  have k757 := sh1.2.1
  have k757b := sh1.2.2.1
  have hl758 : h1.2.2.2.1 bt = h.2.2.2.1 bt := congrFun sh1.2.2.2.2.1 bt
  have hl759 : 1024 ≤ h1.2.2.2.1 bt ∧ h1.2.2.2.1 bt ≤ 1000000 := gJ.rowl (G := gGG) sh1.1 tbt rfl
  have G760 : gSg [114] [] [56000, 56001, 56002, 56003, 71012, 71013, 71014, 114999] ty h ty h1 := gSg.ss G0 sh1 (by decide)
  exact gz_wk (lp18 _ ty h1 bt 0 c0 u0 h0 0 (Nat.lt_succ_self _) G760 uq tx tsk s7 tbt ⟨by omega, by omega⟩ ⟨by omega, by omega⟩ ⟨by omega, by omega⟩ ⟨by omega, by omega⟩ ⟨by omega, by omega⟩ (by omega) (by omega) (by omega) (by omega) (by omega) (by omega) (by omega) (by omega) (by omega) (by omega) (by omega) s6 s11 s12 s13 s14 s15 s16 s17 s8 s9 s10 eh1 pr3 pr4 pr5 hsw20 hok21) (gLw.s (gLw.s gLw.z))
