/-! ===== the encoder of the reference (by program) ===== -/
set_option maxRecDepth 20000 in
set_option maxHeartbeats 4000000 in
theorem mw_encode (d : Nat) {ty : Nat → Nat} {h : gH} (hJ : gJ rT 1027 ty h) (m : Nat) (tm : ty m = 1) (qu : Int) (rqu : (-2147483648) ≤ qu ∧ qu ≤ 2147483647) (n0 : Int) (en0 : h.2.2.2.2 m 53 = .int (zi n0)) (rn0 : 0 ≤ n0 ∧ n0 ≤ 10) (cw : Int) (ecw : h.2.2.2.2 m 50 = .int (zi cw)) (rcw : 0 ≤ cw ∧ cw ≤ 32) (ch : Int) (ech : h.2.2.2.2 m 51 = .int (zi ch)) (rch : 0 ≤ ch ∧ ch ≤ 32) (iv : Int) (eiv : h.2.2.2.2 m 52 = .int (zi iv)) (riv : 0 ≤ iv ∧ iv ≤ 100) (w0 : Int) (ew0 : h.2.2.2.2 m 59 = .int (zi w0)) (rw0 : 0 ≤ w0 ∧ w0 ≤ 60000) (C nb tf tt th tl cm : Nat → Int) (sg : gWt) (pp0 : cw = 0 ↔ ch = 0) (pp1 : w0 = sg.1) (uq : gUq ty) (hyts : gTs ty n0 h) (hyso : gSO ty sg h) (hyf26 : gRn 1024 ty 26 C h) (hyf8 : gRn 256 ty 8 nb h) (hyf10 : gRn 64 ty 10 (fun i9 => eZz ((i9 : Nat) : Int)) h) (hyf27 : gRn 10 ty 27 tf h) (hyf28 : gRn 10 ty 28 tt h) (hyf29 : gRn 10 ty 29 th h) (hyf30 : gRn 10 ty 30 tl h) (hyf31 : gRn 64 ty 31 cm h) (hytz : ∀ j9 : Nat, j9 < n0.toNat → tf j9 = 0 → tt j9 = 0) : gz gPP gGG gcn (d + 6) gt183 0 (gent [.ref m, .int (zi qu)] 5) [] h (fun q _ => gSs rT 1027 ty [1000, 1053, 1059, 1061, 1062, 1064, 1067, 1074, 1075, 31999, 32999, 33999, 34999, 36999, 37999, 38999, 39999, 40999, 41999, 42999] h q.2.2 ∧ ∃ z n1 w1 t1 : Int, gfin gt183 q.1 q.2.1 = some (some (.int (zi z))) ∧ 0 ≤ z ∧ z ≤ 60000 ∧ q.2.2.2.2.2.2 m 53 = .int (zi n1) ∧ 0 ≤ n1 ∧ n1 ≤ 10 ∧ q.2.2.2.2.2.2 m 59 = .int (zi w1) ∧ 0 ≤ w1 ∧ w1 ≤ 60000 ∧ q.2.2.2.2.2.2 m 0 = .int (zi t1) ∧ 0 ≤ t1 ∧ t1 ≤ 2 ∧ ((qu < 1 ∨ 100 < qu) → t1 = 1) ∧ ((1 ≤ qu ∧ qu ≤ 100 ∧ cw = 0) → t1 = 2) ∧ ((1 ≤ qu ∧ qu ≤ 100 ∧ ¬ cw = 0) → (t1 = 0 ∧ z = w1 ∧ n1 = 0)) ∧ (¬ (1 ≤ qu ∧ qu ≤ 100 ∧ ¬ cw = 0) → n1 = n0) ∧ (w1 = (eEx qu cw (eEn (eTb nb qu) n0 ch cw iv (eCf C (eTb nb qu) cw ch (zup cw 8)) (zup cw 8 * zup ch 8).toNat tf tt th tl) sg).1) ∧ (gTs ty n1 q.2.2) ∧ (gSO ty (eEx qu cw (eEn (eTb nb qu) n0 ch cw iv (eCf C (eTb nb qu) cw ch (zup cw 8)) (zup cw 8 * zup ch 8).toNat tf tt th tl) sg) q.2.2) ∧ (gRn 64 ty 31 (eCm qu cw cm) q.2.2)) := by
  have hS : gSs rT 1027 ty [1000, 1053, 1059, 1061, 1062, 1064, 1067, 1074, 1075, 31999, 32999, 33999, 34999, 36999, 37999, 38999, 39999, 40999, 41999, 42999] h h := gSs.rf hJ
  refine gz_s 3 (pc' := 3) (L' := [some (.ref m), some (.int (zi qu)), none, none, none]) (S' := [.int (zi 1), .int (zi qu), .ref m]) rfl ?_
  have jn1 : ∀ (jn1v0 : Int), ((0 ≤ jn1v0) ∧ (jn1v0 ≤ 2) ∧ (jn1v0 = 0 → (1 ≤ qu ∧ qu ≤ 100 ∧ ¬ cw = 0)) ∧ ((qu < 1 ∨ 100 < qu) → jn1v0 = 1) ∧ ((1 ≤ qu ∧ qu ≤ 100 ∧ cw = 0) → jn1v0 = 2) ∧ ((1 ≤ qu ∧ qu ≤ 100 ∧ ¬ cw = 0) → jn1v0 = 0)) → gz gPP gGG gcn (d + 6) gt183 28 [some (.ref m), some (.int (zi qu)), none, none, none] [.int (zi jn1v0), .ref m] h (fun q _ => gSs rT 1027 ty [1000, 1053, 1059, 1061, 1062, 1064, 1067, 1074, 1075, 31999, 32999, 33999, 34999, 36999, 37999, 38999, 39999, 40999, 41999, 42999] h q.2.2 ∧ ∃ z n1 w1 t1 : Int, gfin gt183 q.1 q.2.1 = some (some (.int (zi z))) ∧ 0 ≤ z ∧ z ≤ 60000 ∧ q.2.2.2.2.2.2 m 53 = .int (zi n1) ∧ 0 ≤ n1 ∧ n1 ≤ 10 ∧ q.2.2.2.2.2.2 m 59 = .int (zi w1) ∧ 0 ≤ w1 ∧ w1 ≤ 60000 ∧ q.2.2.2.2.2.2 m 0 = .int (zi t1) ∧ 0 ≤ t1 ∧ t1 ≤ 2 ∧ ((qu < 1 ∨ 100 < qu) → t1 = 1) ∧ ((1 ≤ qu ∧ qu ≤ 100 ∧ cw = 0) → t1 = 2) ∧ ((1 ≤ qu ∧ qu ≤ 100 ∧ ¬ cw = 0) → (t1 = 0 ∧ z = w1 ∧ n1 = 0)) ∧ (¬ (1 ≤ qu ∧ qu ≤ 100 ∧ ¬ cw = 0) → n1 = n0) ∧ (w1 = (eEx qu cw (eEn (eTb nb qu) n0 ch cw iv (eCf C (eTb nb qu) cw ch (zup cw 8)) (zup cw 8 * zup ch 8).toNat tf tt th tl) sg).1) ∧ (gTs ty n1 q.2.2) ∧ (gSO ty (eEx qu cw (eEn (eTb nb qu) n0 ch cw iv (eCf C (eTb nb qu) cw ch (zup cw 8)) (zup cw 8 * zup ch 8).toNat tf tt th tl) sg) q.2.2) ∧ (gRn 64 ty 31 (eCm qu cw cm) q.2.2)) := by
    intro jn1v0 jn1d
    refine gs_put rfl (by decide) rfl hS tm rfl rfl rfl rfl (Or.inl rfl) (by decide) (by omega) (by omega) (fun h2 sh2 eh2 fh2 => ?_)
    have pr3 := gTs.pt fh2 tm (by decide) hyts
    have pr4 := gSO.pt fh2 tm (by decide) hyso
    have pr5 := gRn.pt fh2 tm (by decide) hyf26
    have pr6 := gRn.pt fh2 tm (by decide) hyf8
    have pr7 := gRn.pt fh2 tm (by decide) hyf10
    have pr8 := gRn.pt fh2 tm (by decide) hyf27
    have pr9 := gRn.pt fh2 tm (by decide) hyf28
    have pr10 := gRn.pt fh2 tm (by decide) hyf29
    have pr11 := gRn.pt fh2 tm (by decide) hyf30
    have pr12 := gRn.pt fh2 tm (by decide) hyf31
    have s13 := (fh2 m 53 (fun q => absurd q.2 (by decide))).trans en0
    have s14 := (fh2 m 50 (fun q => absurd q.2 (by decide))).trans ecw
    have s15 := (fh2 m 51 (fun q => absurd q.2 (by decide))).trans ech
    have s16 := (fh2 m 52 (fun q => absurd q.2 (by decide))).trans eiv
    have s17 := (fh2 m 59 (fun q => absurd q.2 (by decide))).trans ew0
    refine gz_s 1 (pc' := 32) (L' := [some (.ref m), some (.int (zi qu)), none, none, none]) (S' := [.ref m]) rfl ?_
    refine gs_gtk rfl (by decide) rfl sh2.1 tm rfl rfl eh2 ?_
    by_cases hc18 : (jn1v0 : Int) ≤ 0
    · refine gy_ifT (pc' := 40) rfl (by decide) (by decide) (by omega) hc18 ?_
      have hok : 1 ≤ qu ∧ qu ≤ 100 ∧ ¬ cw = 0 := by omega
      refine gz_s 2 (pc' := 43) (L' := [some (.ref m), some (.int (zi qu)), none, none, none]) (S' := [.int (zi 50), .int (zi qu)]) rfl ?_
      have jn19 : ∀ (jn19v0 : Int), ((0 ≤ jn19v0) ∧ (jn19v0 ≤ 5000) ∧ (jn19v0 = if qu < 50 then 5000 / qu else 200 - 2 * qu)) → gz gPP gGG gcn (d + 6) gt183 61 [some (.ref m), some (.int (zi qu)), none, none, none] [.int (zi jn19v0)] h2 (fun q _ => gSs rT 1027 ty [1000, 1053, 1059, 1061, 1062, 1064, 1067, 1074, 1075, 31999, 32999, 33999, 34999, 36999, 37999, 38999, 39999, 40999, 41999, 42999] h q.2.2 ∧ ∃ z n1 w1 t1 : Int, gfin gt183 q.1 q.2.1 = some (some (.int (zi z))) ∧ 0 ≤ z ∧ z ≤ 60000 ∧ q.2.2.2.2.2.2 m 53 = .int (zi n1) ∧ 0 ≤ n1 ∧ n1 ≤ 10 ∧ q.2.2.2.2.2.2 m 59 = .int (zi w1) ∧ 0 ≤ w1 ∧ w1 ≤ 60000 ∧ q.2.2.2.2.2.2 m 0 = .int (zi t1) ∧ 0 ≤ t1 ∧ t1 ≤ 2 ∧ ((qu < 1 ∨ 100 < qu) → t1 = 1) ∧ ((1 ≤ qu ∧ qu ≤ 100 ∧ cw = 0) → t1 = 2) ∧ ((1 ≤ qu ∧ qu ≤ 100 ∧ ¬ cw = 0) → (t1 = 0 ∧ z = w1 ∧ n1 = 0)) ∧ (¬ (1 ≤ qu ∧ qu ≤ 100 ∧ ¬ cw = 0) → n1 = n0) ∧ (w1 = (eEx qu cw (eEn (eTb nb qu) n0 ch cw iv (eCf C (eTb nb qu) cw ch (zup cw 8)) (zup cw 8 * zup ch 8).toNat tf tt th tl) sg).1) ∧ (gTs ty n1 q.2.2) ∧ (gSO ty (eEx qu cw (eEn (eTb nb qu) n0 ch cw iv (eCf C (eTb nb qu) cw ch (zup cw 8)) (zup cw 8 * zup ch 8).toNat tf tt th tl) sg) q.2.2) ∧ (gRn 64 ty 31 (eCm qu cw cm) q.2.2)) := by
        intro jn19v0 jn19d
        refine gz_s 3 (pc' := 64) (L' := [some (.ref m), some (.int (zi qu)), some (.int (zi jn19v0)), some (.int (zi 0)), none]) (S' := []) rfl ?_
        have lp20 : ∀ (fu : Nat) (h21 : gH) (k : Int), (65 - k).toNat < fu → gSs rT 1027 ty [1000, 1053, 1059, 1061, 1062, 1064, 1067, 1074, 1075, 31999, 32999, 33999, 34999, 36999, 37999, 38999, 39999, 40999, 41999, 42999] h h21 → (0 ≤ k ∧ k ≤ 64) → h21.2.2.2.2 m 53 = .int (zi n0) → h21.2.2.2.2 m 50 = .int (zi cw) → h21.2.2.2.2 m 51 = .int (zi ch) → h21.2.2.2.2 m 52 = .int (zi iv) → h21.2.2.2.2 m 59 = .int (zi w0) → h21.2.2.2.2 m 0 = .int (zi jn1v0) → gTs ty n0 h21 → gRn 1024 ty 26 C h21 → gRn 256 ty 8 nb h21 → gRn 64 ty 10 (fun i9 => eZz ((i9 : Nat) : Int)) h21 → gRn 10 ty 27 tf h21 → gRn 10 ty 28 tt h21 → gRn 10 ty 29 th h21 → gRn 10 ty 30 tl h21 → gRn 64 ty 31 cm h21 → (∀ j9 : Nat, j9 < n0.toNat → tf j9 = 0 → tt j9 = 0) → gRn (k).toNat ty 34 (eTb nb qu) h21 → gz gPP gGG gcn (d + 6) gt183 64 [some (.ref m), some (.int (zi qu)), some (.int (zi jn19v0)), some (.int (zi k)), none] [] h21 (fun q _ => gSs rT 1027 ty [1000, 1053, 1059, 1061, 1062, 1064, 1067, 1074, 1075, 31999, 32999, 33999, 34999, 36999, 37999, 38999, 39999, 40999, 41999, 42999] h q.2.2 ∧ ∃ z n1 w1 t1 : Int, gfin gt183 q.1 q.2.1 = some (some (.int (zi z))) ∧ 0 ≤ z ∧ z ≤ 60000 ∧ q.2.2.2.2.2.2 m 53 = .int (zi n1) ∧ 0 ≤ n1 ∧ n1 ≤ 10 ∧ q.2.2.2.2.2.2 m 59 = .int (zi w1) ∧ 0 ≤ w1 ∧ w1 ≤ 60000 ∧ q.2.2.2.2.2.2 m 0 = .int (zi t1) ∧ 0 ≤ t1 ∧ t1 ≤ 2 ∧ ((qu < 1 ∨ 100 < qu) → t1 = 1) ∧ ((1 ≤ qu ∧ qu ≤ 100 ∧ cw = 0) → t1 = 2) ∧ ((1 ≤ qu ∧ qu ≤ 100 ∧ ¬ cw = 0) → (t1 = 0 ∧ z = w1 ∧ n1 = 0)) ∧ (¬ (1 ≤ qu ∧ qu ≤ 100 ∧ ¬ cw = 0) → n1 = n0) ∧ (w1 = (eEx qu cw (eEn (eTb nb qu) n0 ch cw iv (eCf C (eTb nb qu) cw ch (zup cw 8)) (zup cw 8 * zup ch 8).toNat tf tt th tl) sg).1) ∧ (gTs ty n1 q.2.2) ∧ (gSO ty (eEx qu cw (eEn (eTb nb qu) n0 ch cw iv (eCf C (eTb nb qu) cw ch (zup cw 8)) (zup cw 8 * zup ch 8).toNat tf tt th tl) sg) q.2.2) ∧ (gRn 64 ty 31 (eCm qu cw cm) q.2.2)) := by
          intro fu
          induction fu with
          | zero => intro h21 k hm; exact absurd hm (Nat.not_lt_zero _)
          | succ fu ihlp20 =>
            intro h21 k lp20m sh21 lp20f0 lp20k0 lp20k1 lp20k2 lp20k3 lp20k4 lp20k5 lp20k6 lp20k7 lp20k8 lp20k9 lp20k10 lp20k11 lp20k12 lp20k13 lp20k14 lp20k15 lp20k16
            refine gz_s 2 (pc' := 67) (L' := [some (.ref m), some (.int (zi qu)), some (.int (zi jn19v0)), some (.int (zi k)), none]) (S' := [.int (zi 64), .int (zi k)]) rfl ?_
            by_cases hc22 : (64 : Int) ≤ k
            · refine gy_icT (pc' := 124) rfl (by decide) (by decide) (by omega) (by omega) hc22 ?_
              have hrw23 : gRn 64 ty 34 (eTb nb qu) h21 := by have e9 := lp20k16; rw [(by omega : (k).toNat = 64)] at e9; exact e9
              refine gz_s 1 (pc' := 125) (L' := [some (.ref m), some (.int (zi qu)), some (.int (zi jn19v0)), some (.int (zi k)), none]) (S' := [.ref m]) rfl ?_
              refine gz_call rfl (by decide) rfl (by decide) (by decide) (gcal_of rfl rfl rfl (Nat.le_of_ble_eq_true rfl) (gJ.recv (G := gGG) sh21.1 tm rfl rfl)) (mw_transform _ sh21.1 m tm cw lp20k1 (by omega) ch lp20k2 (by omega) C (eTb nb qu) uq lp20k7 hrw23 lp20k9 eTb_b) (fun q24 _ wq24 => ?_)
              obtain ⟨pq24, oq24, hq24⟩ := q24
              obtain ⟨xq24, fq24_0, gq24, efq24_0, afq24_0, bfq24_0, uq24_0, yq24_0⟩ := wq24
              refine ⟨_, gq24, ?_⟩
              show gz gPP gGG gcn _ _ 128 [some (.ref m), some (.int (zi qu)), some (.int (zi jn19v0)), some (.int (zi k)), none] [] hq24 _
              have sq24 := gSs.tr sh21 xq24 (by decide)
              have s25 := (xq24.2.2.2.2.2 m 53 (by rw [tm]; decide)).trans lp20k0
              have s26 := (xq24.2.2.2.2.2 m 50 (by rw [tm]; decide)).trans lp20k1
              have s27 := (xq24.2.2.2.2.2 m 51 (by rw [tm]; decide)).trans lp20k2
              have s28 := (xq24.2.2.2.2.2 m 52 (by rw [tm]; decide)).trans lp20k3
              have s29 := (xq24.2.2.2.2.2 m 59 (by rw [tm]; decide)).trans lp20k4
              have s30 := (xq24.2.2.2.2.2 m 0 (by rw [tm]; decide)).trans lp20k5
              have pr31 := gTs.fr xq24.2 (by decide) lp20k6
              have pr32 := gRn.fr xq24.2 (by decide) lp20k7
              have pr33 := gRn.fr xq24.2 (by decide) lp20k8
              have pr34 := gRn.fr xq24.2 (by decide) lp20k9
              have pr35 := gRn.fr xq24.2 (by decide) lp20k10
              have pr36 := gRn.fr xq24.2 (by decide) lp20k11
              have pr37 := gRn.fr xq24.2 (by decide) lp20k12
              have pr38 := gRn.fr xq24.2 (by decide) lp20k13
              have pr39 := gRn.fr xq24.2 (by decide) lp20k14
              have pr40 := gRn.fr xq24.2 (by decide) hrw23
              have hmb : fq24_0 = zup cw 8 * zup ch 8 := uq24_0
              have hmn : (fq24_0).toNat = (zup cw 8 * zup ch 8).toNat := by rw [hmb]
              refine gz_s 2 (pc' := 130) (L' := [some (.ref m), some (.int (zi qu)), some (.int (zi jn19v0)), some (.int (zi k)), none]) (S' := [.int (zi 0), .ref m]) rfl ?_
              refine gs_put rfl (by decide) rfl sq24 tm rfl rfl rfl rfl (Or.inl rfl) (by decide) (by omega) (by omega) (fun h41 sh41 eh41 fh41 => ?_)
              have pr42 := gTs.pt fh41 tm (by decide) pr31
              have pr43 := gRn.pt fh41 tm (by decide) pr32
              have pr44 := gRn.pt fh41 tm (by decide) pr33
              have pr45 := gRn.pt fh41 tm (by decide) pr34
              have pr46 := gRn.pt fh41 tm (by decide) pr35
              have pr47 := gRn.pt fh41 tm (by decide) pr36
              have pr48 := gRn.pt fh41 tm (by decide) pr37
              have pr49 := gRn.pt fh41 tm (by decide) pr38
              have pr50 := gRn.pt fh41 tm (by decide) pr39
              have pr51 := gRn.pt fh41 tm (by decide) pr40
              have pr52 := gRn.pt fh41 tm (by decide) yq24_0
              have s53 := (fh41 m 53 (fun q => absurd q.2 (by decide))).trans s25
              have s54 := (fh41 m 50 (fun q => absurd q.2 (by decide))).trans s26
              have s55 := (fh41 m 51 (fun q => absurd q.2 (by decide))).trans s27
              have s56 := (fh41 m 52 (fun q => absurd q.2 (by decide))).trans s28
              have s57 := (fh41 m 0 (fun q => absurd q.2 (by decide))).trans s30
              have s58 := (fh41 m 64 (fun q => absurd q.2 (by decide))).trans efq24_0
              refine gz_s 2 (pc' := 135) (L' := [some (.ref m), some (.int (zi qu)), some (.int (zi jn19v0)), some (.int (zi k)), none]) (S' := [.int (zi 0), .ref m]) rfl ?_
              refine gs_put rfl (by decide) rfl sh41 tm rfl rfl rfl rfl (Or.inl rfl) (by decide) (by omega) (by omega) (fun h59 sh59 eh59 fh59 => ?_)
              have pr60 := gTs.pt fh59 tm (by decide) pr42
              have pr61 := gRn.pt fh59 tm (by decide) pr43
              have pr62 := gRn.pt fh59 tm (by decide) pr44
              have pr63 := gRn.pt fh59 tm (by decide) pr45
              have pr64 := gRn.pt fh59 tm (by decide) pr46
              have pr65 := gRn.pt fh59 tm (by decide) pr47
              have pr66 := gRn.pt fh59 tm (by decide) pr48
              have pr67 := gRn.pt fh59 tm (by decide) pr49
              have pr68 := gRn.pt fh59 tm (by decide) pr50
              have pr69 := gRn.pt fh59 tm (by decide) pr51
              have pr70 := gRn.pt fh59 tm (by decide) pr52
              have s71 := (fh59 m 53 (fun q => absurd q.2 (by decide))).trans s53
              have s72 := (fh59 m 50 (fun q => absurd q.2 (by decide))).trans s54
              have s73 := (fh59 m 51 (fun q => absurd q.2 (by decide))).trans s55
              have s74 := (fh59 m 52 (fun q => absurd q.2 (by decide))).trans s56
              have s75 := (fh59 m 0 (fun q => absurd q.2 (by decide))).trans s57
              have s76 := (fh59 m 64 (fun q => absurd q.2 (by decide))).trans s58
              have s77 := (fh59 m 59 (fun q => absurd q.2 (by decide))).trans eh41
              refine gz_s 2 (pc' := 140) (L' := [some (.ref m), some (.int (zi qu)), some (.int (zi jn19v0)), some (.int (zi k)), none]) (S' := [.int (zi 0), .ref m]) rfl ?_
              refine gs_put rfl (by decide) rfl sh59 tm rfl rfl rfl rfl (Or.inl rfl) (by decide) (by omega) (by omega) (fun h78 sh78 eh78 fh78 => ?_)
              have pr79 := gTs.pt fh78 tm (by decide) pr60
              have pr80 := gRn.pt fh78 tm (by decide) pr61
              have pr81 := gRn.pt fh78 tm (by decide) pr62
              have pr82 := gRn.pt fh78 tm (by decide) pr63
              have pr83 := gRn.pt fh78 tm (by decide) pr64
              have pr84 := gRn.pt fh78 tm (by decide) pr65
              have pr85 := gRn.pt fh78 tm (by decide) pr66
              have pr86 := gRn.pt fh78 tm (by decide) pr67
              have pr87 := gRn.pt fh78 tm (by decide) pr68
              have pr88 := gRn.pt fh78 tm (by decide) pr69
              have pr89 := gRn.pt fh78 tm (by decide) pr70
              have s90 := (fh78 m 53 (fun q => absurd q.2 (by decide))).trans s71
              have s91 := (fh78 m 50 (fun q => absurd q.2 (by decide))).trans s72
              have s92 := (fh78 m 51 (fun q => absurd q.2 (by decide))).trans s73
              have s93 := (fh78 m 52 (fun q => absurd q.2 (by decide))).trans s74
              have s94 := (fh78 m 0 (fun q => absurd q.2 (by decide))).trans s75
              have s95 := (fh78 m 64 (fun q => absurd q.2 (by decide))).trans s76
              have s96 := (fh78 m 59 (fun q => absurd q.2 (by decide))).trans s77
              have s97 := (fh78 m 61 (fun q => absurd q.2 (by decide))).trans eh59
              have hso98 : gSO ty ((0, 0, 0, fun _ => 0) : gWt) h78 := gSO.nil (fun _ => rfl) rfl
              have hw1 : (((0, 0, 0, fun _ => 0) : gWt)).1 = 0 := rfl
              have hw2 : (((0, 0, 0, fun _ => 0) : gWt)).2.1 = 0 := rfl
              have hw3 : (((0, 0, 0, fun _ => 0) : gWt)).2.2.1 = 0 := rfl
              refine gz_s 2 (pc' := 147) (L' := [some (.ref m), some (.int (zi qu)), some (.int (zi jn19v0)), some (.int (zi k)), none]) (S' := [.int (zi 216), .ref m]) rfl ?_
              refine gz_call rfl (by decide) rfl (by decide) (by decide) (gcal_of rfl rfl rfl (Nat.le_of_ble_eq_true rfl) (gJ.recv (G := gGG) sh78.1 tm rfl rfl)) (mw_putMarker _ sh78.1 m tm 216 (by omega) 0 s96 (by omega) ((0, 0, 0, fun _ => 0) : gWt) (by omega) uq hso98 eeOk_0) (fun q99 _ wq99 => ?_)
              obtain ⟨pq99, oq99, hq99⟩ := q99
              obtain ⟨xq99, fq99_0, gq99, efq99_0, afq99_0, bfq99_0, uq99_0, uq99_1, uq99_2, uq99_3, yq99_0, yq99_1⟩ := wq99
              refine ⟨_, gq99, ?_⟩
              show gz gPP gGG gcn _ _ 150 [some (.ref m), some (.int (zi qu)), some (.int (zi jn19v0)), some (.int (zi k)), none] [] hq99 _
              have sq99 := gSs.tr sh78 xq99 (by decide)
              have s100 := (xq99.2.2.2.2.2 m 53 (by rw [tm]; decide)).trans s90
              have s101 := (xq99.2.2.2.2.2 m 50 (by rw [tm]; decide)).trans s91
              have s102 := (xq99.2.2.2.2.2 m 51 (by rw [tm]; decide)).trans s92
              have s103 := (xq99.2.2.2.2.2 m 52 (by rw [tm]; decide)).trans s93
              have s104 := (xq99.2.2.2.2.2 m 0 (by rw [tm]; decide)).trans s94
              have s105 := (xq99.2.2.2.2.2 m 64 (by rw [tm]; decide)).trans s95
              have s106 := (xq99.2.2.2.2.2 m 61 (by rw [tm]; decide)).trans s97
              have s107 := (xq99.2.2.2.2.2 m 62 (by rw [tm]; decide)).trans eh78
              have pr108 := gTs.fr xq99.2 (by decide) pr79
              have pr109 := gRn.fr xq99.2 (by decide) pr80
              have pr110 := gRn.fr xq99.2 (by decide) pr81
              have pr111 := gRn.fr xq99.2 (by decide) pr82
              have pr112 := gRn.fr xq99.2 (by decide) pr83
              have pr113 := gRn.fr xq99.2 (by decide) pr84
              have pr114 := gRn.fr xq99.2 (by decide) pr85
              have pr115 := gRn.fr xq99.2 (by decide) pr86
              have pr116 := gRn.fr xq99.2 (by decide) pr87
              have pr117 := gRn.fr xq99.2 (by decide) pr88
              have pr118 := gRn.fr xq99.2 (by decide) pr89
              refine gz_s 2 (pc' := 154) (L' := [some (.ref m), some (.int (zi qu)), some (.int (zi jn19v0)), some (.int (zi k)), none]) (S' := [.int (zi 219), .ref m]) rfl ?_
              refine gz_call rfl (by decide) rfl (by decide) (by decide) (gcal_of rfl rfl rfl (Nat.le_of_ble_eq_true rfl) (gJ.recv (G := gGG) sq99.1 tm rfl rfl)) (mw_putMarker _ sq99.1 m tm 219 (by omega) fq99_0 efq99_0 (by omega) (eeM ((0, 0, 0, fun _ => 0) : gWt) 216) (by omega) uq yq99_0 yq99_1) (fun q119 _ wq119 => ?_)
              obtain ⟨pq119, oq119, hq119⟩ := q119
              obtain ⟨xq119, fq119_0, gq119, efq119_0, afq119_0, bfq119_0, uq119_0, uq119_1, uq119_2, uq119_3, yq119_0, yq119_1⟩ := wq119
              refine ⟨_, gq119, ?_⟩
              show gz gPP gGG gcn _ _ 157 [some (.ref m), some (.int (zi qu)), some (.int (zi jn19v0)), some (.int (zi k)), none] [] hq119 _
              have sq119 := gSs.tr sq99 xq119 (by decide)
              have s120 := (xq119.2.2.2.2.2 m 53 (by rw [tm]; decide)).trans s100
              have s121 := (xq119.2.2.2.2.2 m 50 (by rw [tm]; decide)).trans s101
              have s122 := (xq119.2.2.2.2.2 m 51 (by rw [tm]; decide)).trans s102
              have s123 := (xq119.2.2.2.2.2 m 52 (by rw [tm]; decide)).trans s103
              have s124 := (xq119.2.2.2.2.2 m 0 (by rw [tm]; decide)).trans s104
              have s125 := (xq119.2.2.2.2.2 m 64 (by rw [tm]; decide)).trans s105
              have s126 := (xq119.2.2.2.2.2 m 61 (by rw [tm]; decide)).trans s106
              have s127 := (xq119.2.2.2.2.2 m 62 (by rw [tm]; decide)).trans s107
              have pr128 := gTs.fr xq119.2 (by decide) pr108
              have pr129 := gRn.fr xq119.2 (by decide) pr109
              have pr130 := gRn.fr xq119.2 (by decide) pr110
              have pr131 := gRn.fr xq119.2 (by decide) pr111
              have pr132 := gRn.fr xq119.2 (by decide) pr112
              have pr133 := gRn.fr xq119.2 (by decide) pr113
              have pr134 := gRn.fr xq119.2 (by decide) pr114
              have pr135 := gRn.fr xq119.2 (by decide) pr115
              have pr136 := gRn.fr xq119.2 (by decide) pr116
              have pr137 := gRn.fr xq119.2 (by decide) pr117
              have pr138 := gRn.fr xq119.2 (by decide) pr118
              refine gz_s 2 (pc' := 160) (L' := [some (.ref m), some (.int (zi qu)), some (.int (zi jn19v0)), some (.int (zi k)), none]) (S' := [.int (zi 67), .ref m]) rfl ?_
              refine gz_call rfl (by decide) rfl (by decide) (by decide) (gcal_of rfl rfl rfl (Nat.le_of_ble_eq_true rfl) (gJ.recv (G := gGG) sq119.1 tm rfl rfl)) (mw_putTwo _ sq119.1 m tm 67 (by omega) fq119_0 efq119_0 (by omega) (eeM (eeM ((0, 0, 0, fun _ => 0) : gWt) 216) 219) (by omega) uq yq119_0 yq119_1) (fun q139 _ wq139 => ?_)
              obtain ⟨pq139, oq139, hq139⟩ := q139
              obtain ⟨xq139, fq139_0, gq139, efq139_0, afq139_0, bfq139_0, uq139_0, uq139_1, uq139_2, uq139_3, yq139_0, yq139_1⟩ := wq139
              refine ⟨_, gq139, ?_⟩
              show gz gPP gGG gcn _ _ 163 [some (.ref m), some (.int (zi qu)), some (.int (zi jn19v0)), some (.int (zi k)), none] [] hq139 _
              have sq139 := gSs.tr sq119 xq139 (by decide)
              have s140 := (xq139.2.2.2.2.2 m 53 (by rw [tm]; decide)).trans s120
              have s141 := (xq139.2.2.2.2.2 m 50 (by rw [tm]; decide)).trans s121
              have s142 := (xq139.2.2.2.2.2 m 51 (by rw [tm]; decide)).trans s122
              have s143 := (xq139.2.2.2.2.2 m 52 (by rw [tm]; decide)).trans s123
              have s144 := (xq139.2.2.2.2.2 m 0 (by rw [tm]; decide)).trans s124
              have s145 := (xq139.2.2.2.2.2 m 64 (by rw [tm]; decide)).trans s125
              have s146 := (xq139.2.2.2.2.2 m 61 (by rw [tm]; decide)).trans s126
              have s147 := (xq139.2.2.2.2.2 m 62 (by rw [tm]; decide)).trans s127
              have pr148 := gTs.fr xq139.2 (by decide) pr128
              have pr149 := gRn.fr xq139.2 (by decide) pr129
              have pr150 := gRn.fr xq139.2 (by decide) pr130
              have pr151 := gRn.fr xq139.2 (by decide) pr131
              have pr152 := gRn.fr xq139.2 (by decide) pr132
              have pr153 := gRn.fr xq139.2 (by decide) pr133
              have pr154 := gRn.fr xq139.2 (by decide) pr134
              have pr155 := gRn.fr xq139.2 (by decide) pr135
              have pr156 := gRn.fr xq139.2 (by decide) pr136
              have pr157 := gRn.fr xq139.2 (by decide) pr137
              have pr158 := gRn.fr xq139.2 (by decide) pr138
              refine gz_s 2 (pc' := 165) (L' := [some (.ref m), some (.int (zi qu)), some (.int (zi jn19v0)), some (.int (zi k)), none]) (S' := [.int (zi 0), .ref m]) rfl ?_
              refine gz_call rfl (by decide) rfl (by decide) (by decide) (gcal_of rfl rfl rfl (Nat.le_of_ble_eq_true rfl) (gJ.recv (G := gGG) sq139.1 tm rfl rfl)) (mw_putByte _ sq139.1 m tm 0 (by omega) fq139_0 efq139_0 (by omega) (eeT (eeM (eeM ((0, 0, 0, fun _ => 0) : gWt) 216) 219) 67) (by omega) uq yq139_0 yq139_1) (fun q159 _ wq159 => ?_)
              obtain ⟨pq159, oq159, hq159⟩ := q159
              obtain ⟨xq159, fq159_0, gq159, efq159_0, afq159_0, bfq159_0, uq159_0, uq159_1, uq159_2, uq159_3, yq159_0, yq159_1⟩ := wq159
              refine ⟨_, gq159, ?_⟩
              show gz gPP gGG gcn _ _ 168 [some (.ref m), some (.int (zi qu)), some (.int (zi jn19v0)), some (.int (zi k)), none] [] hq159 _
              have sq159 := gSs.tr sq139 xq159 (by decide)
              have s160 := (xq159.2.2.2.2.2 m 53 (by rw [tm]; decide)).trans s140
              have s161 := (xq159.2.2.2.2.2 m 50 (by rw [tm]; decide)).trans s141
              have s162 := (xq159.2.2.2.2.2 m 51 (by rw [tm]; decide)).trans s142
              have s163 := (xq159.2.2.2.2.2 m 52 (by rw [tm]; decide)).trans s143
              have s164 := (xq159.2.2.2.2.2 m 0 (by rw [tm]; decide)).trans s144
              have s165 := (xq159.2.2.2.2.2 m 64 (by rw [tm]; decide)).trans s145
              have s166 := (xq159.2.2.2.2.2 m 61 (by rw [tm]; decide)).trans s146
              have s167 := (xq159.2.2.2.2.2 m 62 (by rw [tm]; decide)).trans s147
              have pr168 := gTs.fr xq159.2 (by decide) pr148
              have pr169 := gRn.fr xq159.2 (by decide) pr149
              have pr170 := gRn.fr xq159.2 (by decide) pr150
              have pr171 := gRn.fr xq159.2 (by decide) pr151
              have pr172 := gRn.fr xq159.2 (by decide) pr152
              have pr173 := gRn.fr xq159.2 (by decide) pr153
              have pr174 := gRn.fr xq159.2 (by decide) pr154
              have pr175 := gRn.fr xq159.2 (by decide) pr155
              have pr176 := gRn.fr xq159.2 (by decide) pr156
              have pr177 := gRn.fr xq159.2 (by decide) pr157
              have pr178 := gRn.fr xq159.2 (by decide) pr158
              refine gz_s 2 (pc' := 170) (L' := [some (.ref m), some (.int (zi qu)), some (.int (zi jn19v0)), some (.int (zi 0)), none]) (S' := []) rfl ?_
              have hk180 : eHt (eTb nb qu) (eeB (eeT (eeM (eeM ((0, 0, 0, fun _ => 0) : gWt) 216) 219) 67) 0) (0 : Int).toNat = eeB (eeT (eeM (eeM ((0, 0, 0, fun _ => 0) : gWt) 216) 219) 67) 0 := rfl
              have hk180_1 : (eHt (eTb nb qu) (eeB (eeT (eeM (eeM ((0, 0, 0, fun _ => 0) : gWt) 216) 219) 67) 0) (0 : Int).toNat).1 = (eeB (eeT (eeM (eeM ((0, 0, 0, fun _ => 0) : gWt) 216) 219) 67) 0).1 := by rw [hk180]
              have hk180_21 : (eHt (eTb nb qu) (eeB (eeT (eeM (eeM ((0, 0, 0, fun _ => 0) : gWt) 216) 219) 67) 0) (0 : Int).toNat).2.1 = (eeB (eeT (eeM (eeM ((0, 0, 0, fun _ => 0) : gWt) 216) 219) 67) 0).2.1 := by rw [hk180]
              have hk180_221 : (eHt (eTb nb qu) (eeB (eeT (eeM (eeM ((0, 0, 0, fun _ => 0) : gWt) 216) 219) 67) 0) (0 : Int).toNat).2.2.1 = (eeB (eeT (eeM (eeM ((0, 0, 0, fun _ => 0) : gWt) 216) 219) 67) 0).2.2.1 := by rw [hk180]
              have hso181 : gSO ty (eHt (eTb nb qu) (eeB (eeT (eeM (eeM ((0, 0, 0, fun _ => 0) : gWt) 216) 219) 67) 0) (0 : Int).toNat) hq159 := by rw [hk180]; exact yq159_0
              have hok182 : eeOk (eHt (eTb nb qu) (eeB (eeT (eeM (eeM ((0, 0, 0, fun _ => 0) : gWt) 216) 219) 67) 0) (0 : Int).toNat) := by rw [hk180]; exact yq159_1
              have hok182c := hok182.cur
              have lp179 : ∀ (fu : Nat) (h183 : gH) (k1 : Int) (wa : Int), (65 - k1).toNat < fu → gSs rT 1027 ty [1000, 1053, 1059, 1061, 1062, 1064, 1067, 1074, 1075, 31999, 32999, 33999, 34999, 36999, 37999, 38999, 39999, 40999, 41999, 42999] h h183 → (0 ≤ k1 ∧ k1 ≤ 64) → (0 ≤ wa ∧ wa ≤ 60000) → (wa = 7 + k1) → (wa = (eHt (eTb nb qu) (eeB (eeT (eeM (eeM ((0, 0, 0, fun _ => 0) : gWt) 216) 219) 67) 0) (k1).toNat).1) → ((eHt (eTb nb qu) (eeB (eeT (eeM (eeM ((0, 0, 0, fun _ => 0) : gWt) 216) 219) 67) 0) (k1).toNat).2.1 = 0) → ((eHt (eTb nb qu) (eeB (eeT (eeM (eeM ((0, 0, 0, fun _ => 0) : gWt) 216) 219) 67) 0) (k1).toNat).2.2.1 = 0) → h183.2.2.2.2 m 53 = .int (zi n0) → h183.2.2.2.2 m 50 = .int (zi cw) → h183.2.2.2.2 m 51 = .int (zi ch) → h183.2.2.2.2 m 52 = .int (zi iv) → h183.2.2.2.2 m 0 = .int (zi jn1v0) → h183.2.2.2.2 m 64 = .int (zi fq24_0) → h183.2.2.2.2 m 61 = .int (zi 0) → h183.2.2.2.2 m 62 = .int (zi 0) → h183.2.2.2.2 m 59 = .int (zi wa) → gTs ty n0 h183 → gRn 1024 ty 26 C h183 → gRn 256 ty 8 nb h183 → gRn 64 ty 10 (fun i9 => eZz ((i9 : Nat) : Int)) h183 → gRn 10 ty 27 tf h183 → gRn 10 ty 28 tt h183 → gRn 10 ty 29 th h183 → gRn 10 ty 30 tl h183 → gRn 64 ty 31 cm h183 → (∀ j9 : Nat, j9 < n0.toNat → tf j9 = 0 → tt j9 = 0) → gRn 64 ty 34 (eTb nb qu) h183 → gRn (64 * fq24_0).toNat ty 33 (eCf C (eTb nb qu) cw ch (zup cw 8)) h183 → gSO ty (eHt (eTb nb qu) (eeB (eeT (eeM (eeM ((0, 0, 0, fun _ => 0) : gWt) 216) 219) 67) 0) (k1).toNat) h183 → eeOk (eHt (eTb nb qu) (eeB (eeT (eeM (eeM ((0, 0, 0, fun _ => 0) : gWt) 216) 219) 67) 0) (k1).toNat) → gz gPP gGG gcn (d + 6) gt183 170 [some (.ref m), some (.int (zi qu)), some (.int (zi jn19v0)), some (.int (zi k1)), none] [] h183 (fun q _ => gSs rT 1027 ty [1000, 1053, 1059, 1061, 1062, 1064, 1067, 1074, 1075, 31999, 32999, 33999, 34999, 36999, 37999, 38999, 39999, 40999, 41999, 42999] h q.2.2 ∧ ∃ z n1 w1 t1 : Int, gfin gt183 q.1 q.2.1 = some (some (.int (zi z))) ∧ 0 ≤ z ∧ z ≤ 60000 ∧ q.2.2.2.2.2.2 m 53 = .int (zi n1) ∧ 0 ≤ n1 ∧ n1 ≤ 10 ∧ q.2.2.2.2.2.2 m 59 = .int (zi w1) ∧ 0 ≤ w1 ∧ w1 ≤ 60000 ∧ q.2.2.2.2.2.2 m 0 = .int (zi t1) ∧ 0 ≤ t1 ∧ t1 ≤ 2 ∧ ((qu < 1 ∨ 100 < qu) → t1 = 1) ∧ ((1 ≤ qu ∧ qu ≤ 100 ∧ cw = 0) → t1 = 2) ∧ ((1 ≤ qu ∧ qu ≤ 100 ∧ ¬ cw = 0) → (t1 = 0 ∧ z = w1 ∧ n1 = 0)) ∧ (¬ (1 ≤ qu ∧ qu ≤ 100 ∧ ¬ cw = 0) → n1 = n0) ∧ (w1 = (eEx qu cw (eEn (eTb nb qu) n0 ch cw iv (eCf C (eTb nb qu) cw ch (zup cw 8)) (zup cw 8 * zup ch 8).toNat tf tt th tl) sg).1) ∧ (gTs ty n1 q.2.2) ∧ (gSO ty (eEx qu cw (eEn (eTb nb qu) n0 ch cw iv (eCf C (eTb nb qu) cw ch (zup cw 8)) (zup cw 8 * zup ch 8).toNat tf tt th tl) sg) q.2.2) ∧ (gRn 64 ty 31 (eCm qu cw cm) q.2.2)) := by
                intro fu
                induction fu with
                | zero => intro h183 k1 wa hm; exact absurd hm (Nat.not_lt_zero _)
                | succ fu ihlp179 =>
                  intro h183 k1 wa lp179m sh183 lp179f0 lp179f1 lp179f2 lp179f3 lp179f4 lp179f5 lp179k0 lp179k1 lp179k2 lp179k3 lp179k4 lp179k5 lp179k6 lp179k7 lp179k8 lp179k9 lp179k10 lp179k11 lp179k12 lp179k13 lp179k14 lp179k15 lp179k16 lp179k17 lp179k18 lp179k19 lp179k20 lp179k21 lp179k22
                  refine gz_s 2 (pc' := 173) (L' := [some (.ref m), some (.int (zi qu)), some (.int (zi jn19v0)), some (.int (zi k1)), none]) (S' := [.int (zi 64), .int (zi k1)]) rfl ?_
                  by_cases hc184 : (64 : Int) ≤ k1
                  · refine gy_icT (pc' := 192) rfl (by decide) (by decide) (by omega) (by omega) hc184 ?_
                    have hk185 : eHt (eTb nb qu) (eeB (eeT (eeM (eeM ((0, 0, 0, fun _ => 0) : gWt) 216) 219) 67) 0) 64 = eHt (eTb nb qu) (eeB (eeT (eeM (eeM ((0, 0, 0, fun _ => 0) : gWt) 216) 219) 67) 0) (k1).toNat := by rw [(by omega : (k1).toNat = 64)]
                    have hk185_1 : (eHt (eTb nb qu) (eeB (eeT (eeM (eeM ((0, 0, 0, fun _ => 0) : gWt) 216) 219) 67) 0) 64).1 = (eHt (eTb nb qu) (eeB (eeT (eeM (eeM ((0, 0, 0, fun _ => 0) : gWt) 216) 219) 67) 0) (k1).toNat).1 := by rw [hk185]
                    have hk185_21 : (eHt (eTb nb qu) (eeB (eeT (eeM (eeM ((0, 0, 0, fun _ => 0) : gWt) 216) 219) 67) 0) 64).2.1 = (eHt (eTb nb qu) (eeB (eeT (eeM (eeM ((0, 0, 0, fun _ => 0) : gWt) 216) 219) 67) 0) (k1).toNat).2.1 := by rw [hk185]
                    have hk185_221 : (eHt (eTb nb qu) (eeB (eeT (eeM (eeM ((0, 0, 0, fun _ => 0) : gWt) 216) 219) 67) 0) 64).2.2.1 = (eHt (eTb nb qu) (eeB (eeT (eeM (eeM ((0, 0, 0, fun _ => 0) : gWt) 216) 219) 67) 0) (k1).toNat).2.2.1 := by rw [hk185]
                    have hso186 : gSO ty (eHt (eTb nb qu) (eeB (eeT (eeM (eeM ((0, 0, 0, fun _ => 0) : gWt) 216) 219) 67) 0) 64) h183 := by rw [hk185]; exact lp179k21
                    have hok187 : eeOk (eHt (eTb nb qu) (eeB (eeT (eeM (eeM ((0, 0, 0, fun _ => 0) : gWt) 216) 219) 67) 0) 64) := by rw [hk185]; exact lp179k22
                    have hok187c := hok187.cur
                    have hkT := eHt_k (eTb nb qu) (eeB (eeT (eeM (eeM ((0, 0, 0, fun _ => 0) : gWt) 216) 219) 67) 0) 64
                    refine gz_s 2 (pc' := 194) (L' := [some (.ref m), some (.int (zi qu)), some (.int (zi jn19v0)), some (.int (zi k1)), none]) (S' := [.ref m, .ref m]) rfl ?_
                    refine gs_gtk rfl (by decide) rfl sh183.1 tm rfl rfl lp179k0 ?_
                    have jn188 : ∀ (jn188v0 : Int), ((0 ≤ jn188v0) ∧ (jn188v0 ≤ 255) ∧ (jn188v0 = if 0 < n0 then 194 else 192)) → gz gPP gGG gcn (d + 6) gt183 209 [some (.ref m), some (.int (zi qu)), some (.int (zi jn19v0)), some (.int (zi k1)), none] [.int (zi jn188v0), .ref m] h183 (fun q _ => gSs rT 1027 ty [1000, 1053, 1059, 1061, 1062, 1064, 1067, 1074, 1075, 31999, 32999, 33999, 34999, 36999, 37999, 38999, 39999, 40999, 41999, 42999] h q.2.2 ∧ ∃ z n1 w1 t1 : Int, gfin gt183 q.1 q.2.1 = some (some (.int (zi z))) ∧ 0 ≤ z ∧ z ≤ 60000 ∧ q.2.2.2.2.2.2 m 53 = .int (zi n1) ∧ 0 ≤ n1 ∧ n1 ≤ 10 ∧ q.2.2.2.2.2.2 m 59 = .int (zi w1) ∧ 0 ≤ w1 ∧ w1 ≤ 60000 ∧ q.2.2.2.2.2.2 m 0 = .int (zi t1) ∧ 0 ≤ t1 ∧ t1 ≤ 2 ∧ ((qu < 1 ∨ 100 < qu) → t1 = 1) ∧ ((1 ≤ qu ∧ qu ≤ 100 ∧ cw = 0) → t1 = 2) ∧ ((1 ≤ qu ∧ qu ≤ 100 ∧ ¬ cw = 0) → (t1 = 0 ∧ z = w1 ∧ n1 = 0)) ∧ (¬ (1 ≤ qu ∧ qu ≤ 100 ∧ ¬ cw = 0) → n1 = n0) ∧ (w1 = (eEx qu cw (eEn (eTb nb qu) n0 ch cw iv (eCf C (eTb nb qu) cw ch (zup cw 8)) (zup cw 8 * zup ch 8).toNat tf tt th tl) sg).1) ∧ (gTs ty n1 q.2.2) ∧ (gSO ty (eEx qu cw (eEn (eTb nb qu) n0 ch cw iv (eCf C (eTb nb qu) cw ch (zup cw 8)) (zup cw 8 * zup ch 8).toNat tf tt th tl) sg) q.2.2) ∧ (gRn 64 ty 31 (eCm qu cw cm) q.2.2)) := by
                      intro jn188v0 jn188d
                      have hmk : jn188v0 = if 0 < n0 then 194 else 192 := by omega
                      refine gz_call rfl (by decide) rfl (by decide) (by decide) (gcal_of rfl rfl rfl (Nat.le_of_ble_eq_true rfl) (gJ.recv (G := gGG) sh183.1 tm rfl rfl)) (mw_putMarker _ sh183.1 m tm jn188v0 (by omega) wa lp179k8 (by omega) (eHt (eTb nb qu) (eeB (eeT (eeM (eeM ((0, 0, 0, fun _ => 0) : gWt) 216) 219) 67) 0) 64) (by omega) uq hso186 hok187) (fun q189 _ wq189 => ?_)
                      obtain ⟨pq189, oq189, hq189⟩ := q189
                      obtain ⟨xq189, fq189_0, gq189, efq189_0, afq189_0, bfq189_0, uq189_0, uq189_1, uq189_2, uq189_3, yq189_0, yq189_1⟩ := wq189
                      refine ⟨_, gq189, ?_⟩
                      show gz gPP gGG gcn _ _ 212 [some (.ref m), some (.int (zi qu)), some (.int (zi jn19v0)), some (.int (zi k1)), none] [] hq189 _
                      have sq189 := gSs.tr sh183 xq189 (by decide)
                      have s190 := (xq189.2.2.2.2.2 m 53 (by rw [tm]; decide)).trans lp179k0
                      have s191 := (xq189.2.2.2.2.2 m 50 (by rw [tm]; decide)).trans lp179k1
                      have s192 := (xq189.2.2.2.2.2 m 51 (by rw [tm]; decide)).trans lp179k2
                      have s193 := (xq189.2.2.2.2.2 m 52 (by rw [tm]; decide)).trans lp179k3
                      have s194 := (xq189.2.2.2.2.2 m 0 (by rw [tm]; decide)).trans lp179k4
                      have s195 := (xq189.2.2.2.2.2 m 64 (by rw [tm]; decide)).trans lp179k5
                      have s196 := (xq189.2.2.2.2.2 m 61 (by rw [tm]; decide)).trans lp179k6
                      have s197 := (xq189.2.2.2.2.2 m 62 (by rw [tm]; decide)).trans lp179k7
                      have pr198 := gTs.fr xq189.2 (by decide) lp179k9
                      have pr199 := gRn.fr xq189.2 (by decide) lp179k10
                      have pr200 := gRn.fr xq189.2 (by decide) lp179k11
                      have pr201 := gRn.fr xq189.2 (by decide) lp179k12
                      have pr202 := gRn.fr xq189.2 (by decide) lp179k13
                      have pr203 := gRn.fr xq189.2 (by decide) lp179k14
                      have pr204 := gRn.fr xq189.2 (by decide) lp179k15
                      have pr205 := gRn.fr xq189.2 (by decide) lp179k16
                      have pr206 := gRn.fr xq189.2 (by decide) lp179k17
                      have pr207 := gRn.fr xq189.2 (by decide) lp179k19
                      have pr208 := gRn.fr xq189.2 (by decide) lp179k20
                      refine gz_s 2 (pc' := 215) (L' := [some (.ref m), some (.int (zi qu)), some (.int (zi jn19v0)), some (.int (zi k1)), none]) (S' := [.int (zi 11), .ref m]) rfl ?_
                      refine gz_call rfl (by decide) rfl (by decide) (by decide) (gcal_of rfl rfl rfl (Nat.le_of_ble_eq_true rfl) (gJ.recv (G := gGG) sq189.1 tm rfl rfl)) (mw_putTwo _ sq189.1 m tm 11 (by omega) fq189_0 efq189_0 (by omega) (eeM (eHt (eTb nb qu) (eeB (eeT (eeM (eeM ((0, 0, 0, fun _ => 0) : gWt) 216) 219) 67) 0) 64) jn188v0) (by omega) uq yq189_0 yq189_1) (fun q209 _ wq209 => ?_)
                      obtain ⟨pq209, oq209, hq209⟩ := q209
                      obtain ⟨xq209, fq209_0, gq209, efq209_0, afq209_0, bfq209_0, uq209_0, uq209_1, uq209_2, uq209_3, yq209_0, yq209_1⟩ := wq209
                      refine ⟨_, gq209, ?_⟩
                      show gz gPP gGG gcn _ _ 218 [some (.ref m), some (.int (zi qu)), some (.int (zi jn19v0)), some (.int (zi k1)), none] [] hq209 _
                      have sq209 := gSs.tr sq189 xq209 (by decide)
                      have s210 := (xq209.2.2.2.2.2 m 53 (by rw [tm]; decide)).trans s190
                      have s211 := (xq209.2.2.2.2.2 m 50 (by rw [tm]; decide)).trans s191
                      have s212 := (xq209.2.2.2.2.2 m 51 (by rw [tm]; decide)).trans s192
                      have s213 := (xq209.2.2.2.2.2 m 52 (by rw [tm]; decide)).trans s193
                      have s214 := (xq209.2.2.2.2.2 m 0 (by rw [tm]; decide)).trans s194
                      have s215 := (xq209.2.2.2.2.2 m 64 (by rw [tm]; decide)).trans s195
                      have s216 := (xq209.2.2.2.2.2 m 61 (by rw [tm]; decide)).trans s196
                      have s217 := (xq209.2.2.2.2.2 m 62 (by rw [tm]; decide)).trans s197
                      have pr218 := gTs.fr xq209.2 (by decide) pr198
                      have pr219 := gRn.fr xq209.2 (by decide) pr199
                      have pr220 := gRn.fr xq209.2 (by decide) pr200
                      have pr221 := gRn.fr xq209.2 (by decide) pr201
                      have pr222 := gRn.fr xq209.2 (by decide) pr202
                      have pr223 := gRn.fr xq209.2 (by decide) pr203
                      have pr224 := gRn.fr xq209.2 (by decide) pr204
                      have pr225 := gRn.fr xq209.2 (by decide) pr205
                      have pr226 := gRn.fr xq209.2 (by decide) pr206
                      have pr227 := gRn.fr xq209.2 (by decide) pr207
                      have pr228 := gRn.fr xq209.2 (by decide) pr208
                      refine gz_s 2 (pc' := 221) (L' := [some (.ref m), some (.int (zi qu)), some (.int (zi jn19v0)), some (.int (zi k1)), none]) (S' := [.int (zi 8), .ref m]) rfl ?_
                      refine gz_call rfl (by decide) rfl (by decide) (by decide) (gcal_of rfl rfl rfl (Nat.le_of_ble_eq_true rfl) (gJ.recv (G := gGG) sq209.1 tm rfl rfl)) (mw_putByte _ sq209.1 m tm 8 (by omega) fq209_0 efq209_0 (by omega) (eeT (eeM (eHt (eTb nb qu) (eeB (eeT (eeM (eeM ((0, 0, 0, fun _ => 0) : gWt) 216) 219) 67) 0) 64) jn188v0) 11) (by omega) uq yq209_0 yq209_1) (fun q229 _ wq229 => ?_)
                      obtain ⟨pq229, oq229, hq229⟩ := q229
                      obtain ⟨xq229, fq229_0, gq229, efq229_0, afq229_0, bfq229_0, uq229_0, uq229_1, uq229_2, uq229_3, yq229_0, yq229_1⟩ := wq229
                      refine ⟨_, gq229, ?_⟩
                      show gz gPP gGG gcn _ _ 224 [some (.ref m), some (.int (zi qu)), some (.int (zi jn19v0)), some (.int (zi k1)), none] [] hq229 _
                      have sq229 := gSs.tr sq209 xq229 (by decide)
                      have s230 := (xq229.2.2.2.2.2 m 53 (by rw [tm]; decide)).trans s210
                      have s231 := (xq229.2.2.2.2.2 m 50 (by rw [tm]; decide)).trans s211
                      have s232 := (xq229.2.2.2.2.2 m 51 (by rw [tm]; decide)).trans s212
                      have s233 := (xq229.2.2.2.2.2 m 52 (by rw [tm]; decide)).trans s213
                      have s234 := (xq229.2.2.2.2.2 m 0 (by rw [tm]; decide)).trans s214
                      have s235 := (xq229.2.2.2.2.2 m 64 (by rw [tm]; decide)).trans s215
                      have s236 := (xq229.2.2.2.2.2 m 61 (by rw [tm]; decide)).trans s216
                      have s237 := (xq229.2.2.2.2.2 m 62 (by rw [tm]; decide)).trans s217
                      have pr238 := gTs.fr xq229.2 (by decide) pr218
                      have pr239 := gRn.fr xq229.2 (by decide) pr219
                      have pr240 := gRn.fr xq229.2 (by decide) pr220
                      have pr241 := gRn.fr xq229.2 (by decide) pr221
                      have pr242 := gRn.fr xq229.2 (by decide) pr222
                      have pr243 := gRn.fr xq229.2 (by decide) pr223
                      have pr244 := gRn.fr xq229.2 (by decide) pr224
                      have pr245 := gRn.fr xq229.2 (by decide) pr225
                      have pr246 := gRn.fr xq229.2 (by decide) pr226
                      have pr247 := gRn.fr xq229.2 (by decide) pr227
                      have pr248 := gRn.fr xq229.2 (by decide) pr228
                      refine gz_s 2 (pc' := 226) (L' := [some (.ref m), some (.int (zi qu)), some (.int (zi jn19v0)), some (.int (zi k1)), none]) (S' := [.ref m, .ref m]) rfl ?_
                      refine gs_gtk rfl (by decide) rfl sq229.1 tm rfl rfl s232 ?_
                      refine gz_call rfl (by decide) rfl (by decide) (by decide) (gcal_of rfl rfl rfl (Nat.le_of_ble_eq_true rfl) (gJ.recv (G := gGG) sq229.1 tm rfl rfl)) (mw_putTwo _ sq229.1 m tm ch (by omega) fq229_0 efq229_0 (by omega) (eeB (eeT (eeM (eHt (eTb nb qu) (eeB (eeT (eeM (eeM ((0, 0, 0, fun _ => 0) : gWt) 216) 219) 67) 0) 64) jn188v0) 11) 8) (by omega) uq yq229_0 yq229_1) (fun q249 _ wq249 => ?_)
                      obtain ⟨pq249, oq249, hq249⟩ := q249
                      obtain ⟨xq249, fq249_0, gq249, efq249_0, afq249_0, bfq249_0, uq249_0, uq249_1, uq249_2, uq249_3, yq249_0, yq249_1⟩ := wq249
                      refine ⟨_, gq249, ?_⟩
                      show gz gPP gGG gcn _ _ 232 [some (.ref m), some (.int (zi qu)), some (.int (zi jn19v0)), some (.int (zi k1)), none] [] hq249 _
                      have sq249 := gSs.tr sq229 xq249 (by decide)
                      have s250 := (xq249.2.2.2.2.2 m 53 (by rw [tm]; decide)).trans s230
                      have s251 := (xq249.2.2.2.2.2 m 50 (by rw [tm]; decide)).trans s231
                      have s252 := (xq249.2.2.2.2.2 m 51 (by rw [tm]; decide)).trans s232
                      have s253 := (xq249.2.2.2.2.2 m 52 (by rw [tm]; decide)).trans s233
                      have s254 := (xq249.2.2.2.2.2 m 0 (by rw [tm]; decide)).trans s234
                      have s255 := (xq249.2.2.2.2.2 m 64 (by rw [tm]; decide)).trans s235
                      have s256 := (xq249.2.2.2.2.2 m 61 (by rw [tm]; decide)).trans s236
                      have s257 := (xq249.2.2.2.2.2 m 62 (by rw [tm]; decide)).trans s237
                      have pr258 := gTs.fr xq249.2 (by decide) pr238
                      have pr259 := gRn.fr xq249.2 (by decide) pr239
                      have pr260 := gRn.fr xq249.2 (by decide) pr240
                      have pr261 := gRn.fr xq249.2 (by decide) pr241
                      have pr262 := gRn.fr xq249.2 (by decide) pr242
                      have pr263 := gRn.fr xq249.2 (by decide) pr243
                      have pr264 := gRn.fr xq249.2 (by decide) pr244
                      have pr265 := gRn.fr xq249.2 (by decide) pr245
                      have pr266 := gRn.fr xq249.2 (by decide) pr246
                      have pr267 := gRn.fr xq249.2 (by decide) pr247
                      have pr268 := gRn.fr xq249.2 (by decide) pr248
                      refine gz_s 2 (pc' := 234) (L' := [some (.ref m), some (.int (zi qu)), some (.int (zi jn19v0)), some (.int (zi k1)), none]) (S' := [.ref m, .ref m]) rfl ?_
                      refine gs_gtk rfl (by decide) rfl sq249.1 tm rfl rfl s251 ?_
                      refine gz_call rfl (by decide) rfl (by decide) (by decide) (gcal_of rfl rfl rfl (Nat.le_of_ble_eq_true rfl) (gJ.recv (G := gGG) sq249.1 tm rfl rfl)) (mw_putTwo _ sq249.1 m tm cw (by omega) fq249_0 efq249_0 (by omega) (eeT (eeB (eeT (eeM (eHt (eTb nb qu) (eeB (eeT (eeM (eeM ((0, 0, 0, fun _ => 0) : gWt) 216) 219) 67) 0) 64) jn188v0) 11) 8) ch) (by omega) uq yq249_0 yq249_1) (fun q269 _ wq269 => ?_)
                      obtain ⟨pq269, oq269, hq269⟩ := q269
                      obtain ⟨xq269, fq269_0, gq269, efq269_0, afq269_0, bfq269_0, uq269_0, uq269_1, uq269_2, uq269_3, yq269_0, yq269_1⟩ := wq269
                      refine ⟨_, gq269, ?_⟩
                      show gz gPP gGG gcn _ _ 240 [some (.ref m), some (.int (zi qu)), some (.int (zi jn19v0)), some (.int (zi k1)), none] [] hq269 _
                      have sq269 := gSs.tr sq249 xq269 (by decide)
                      have s270 := (xq269.2.2.2.2.2 m 53 (by rw [tm]; decide)).trans s250
                      have s271 := (xq269.2.2.2.2.2 m 50 (by rw [tm]; decide)).trans s251
                      have s272 := (xq269.2.2.2.2.2 m 51 (by rw [tm]; decide)).trans s252
                      have s273 := (xq269.2.2.2.2.2 m 52 (by rw [tm]; decide)).trans s253
                      have s274 := (xq269.2.2.2.2.2 m 0 (by rw [tm]; decide)).trans s254
                      have s275 := (xq269.2.2.2.2.2 m 64 (by rw [tm]; decide)).trans s255
                      have s276 := (xq269.2.2.2.2.2 m 61 (by rw [tm]; decide)).trans s256
                      have s277 := (xq269.2.2.2.2.2 m 62 (by rw [tm]; decide)).trans s257
                      have pr278 := gTs.fr xq269.2 (by decide) pr258
                      have pr279 := gRn.fr xq269.2 (by decide) pr259
                      have pr280 := gRn.fr xq269.2 (by decide) pr260
                      have pr281 := gRn.fr xq269.2 (by decide) pr261
                      have pr282 := gRn.fr xq269.2 (by decide) pr262
                      have pr283 := gRn.fr xq269.2 (by decide) pr263
                      have pr284 := gRn.fr xq269.2 (by decide) pr264
                      have pr285 := gRn.fr xq269.2 (by decide) pr265
                      have pr286 := gRn.fr xq269.2 (by decide) pr266
                      have pr287 := gRn.fr xq269.2 (by decide) pr267
                      have pr288 := gRn.fr xq269.2 (by decide) pr268
                      refine gz_s 2 (pc' := 242) (L' := [some (.ref m), some (.int (zi qu)), some (.int (zi jn19v0)), some (.int (zi k1)), none]) (S' := [.int (zi 1), .ref m]) rfl ?_
                      refine gz_call rfl (by decide) rfl (by decide) (by decide) (gcal_of rfl rfl rfl (Nat.le_of_ble_eq_true rfl) (gJ.recv (G := gGG) sq269.1 tm rfl rfl)) (mw_putByte _ sq269.1 m tm 1 (by omega) fq269_0 efq269_0 (by omega) (eeT (eeT (eeB (eeT (eeM (eHt (eTb nb qu) (eeB (eeT (eeM (eeM ((0, 0, 0, fun _ => 0) : gWt) 216) 219) 67) 0) 64) jn188v0) 11) 8) ch) cw) (by omega) uq yq269_0 yq269_1) (fun q289 _ wq289 => ?_)
                      obtain ⟨pq289, oq289, hq289⟩ := q289
                      obtain ⟨xq289, fq289_0, gq289, efq289_0, afq289_0, bfq289_0, uq289_0, uq289_1, uq289_2, uq289_3, yq289_0, yq289_1⟩ := wq289
                      refine ⟨_, gq289, ?_⟩
                      show gz gPP gGG gcn _ _ 245 [some (.ref m), some (.int (zi qu)), some (.int (zi jn19v0)), some (.int (zi k1)), none] [] hq289 _
                      have sq289 := gSs.tr sq269 xq289 (by decide)
                      have s290 := (xq289.2.2.2.2.2 m 53 (by rw [tm]; decide)).trans s270
                      have s291 := (xq289.2.2.2.2.2 m 50 (by rw [tm]; decide)).trans s271
                      have s292 := (xq289.2.2.2.2.2 m 51 (by rw [tm]; decide)).trans s272
                      have s293 := (xq289.2.2.2.2.2 m 52 (by rw [tm]; decide)).trans s273
                      have s294 := (xq289.2.2.2.2.2 m 0 (by rw [tm]; decide)).trans s274
                      have s295 := (xq289.2.2.2.2.2 m 64 (by rw [tm]; decide)).trans s275
                      have s296 := (xq289.2.2.2.2.2 m 61 (by rw [tm]; decide)).trans s276
                      have s297 := (xq289.2.2.2.2.2 m 62 (by rw [tm]; decide)).trans s277
                      have pr298 := gTs.fr xq289.2 (by decide) pr278
                      have pr299 := gRn.fr xq289.2 (by decide) pr279
                      have pr300 := gRn.fr xq289.2 (by decide) pr280
                      have pr301 := gRn.fr xq289.2 (by decide) pr281
                      have pr302 := gRn.fr xq289.2 (by decide) pr282
                      have pr303 := gRn.fr xq289.2 (by decide) pr283
                      have pr304 := gRn.fr xq289.2 (by decide) pr284
                      have pr305 := gRn.fr xq289.2 (by decide) pr285
                      have pr306 := gRn.fr xq289.2 (by decide) pr286
                      have pr307 := gRn.fr xq289.2 (by decide) pr287
                      have pr308 := gRn.fr xq289.2 (by decide) pr288
                      refine gz_s 2 (pc' := 247) (L' := [some (.ref m), some (.int (zi qu)), some (.int (zi jn19v0)), some (.int (zi k1)), none]) (S' := [.int (zi 1), .ref m]) rfl ?_
                      refine gz_call rfl (by decide) rfl (by decide) (by decide) (gcal_of rfl rfl rfl (Nat.le_of_ble_eq_true rfl) (gJ.recv (G := gGG) sq289.1 tm rfl rfl)) (mw_putByte _ sq289.1 m tm 1 (by omega) fq289_0 efq289_0 (by omega) (eeB (eeT (eeT (eeB (eeT (eeM (eHt (eTb nb qu) (eeB (eeT (eeM (eeM ((0, 0, 0, fun _ => 0) : gWt) 216) 219) 67) 0) 64) jn188v0) 11) 8) ch) cw) 1) (by omega) uq yq289_0 yq289_1) (fun q309 _ wq309 => ?_)
                      obtain ⟨pq309, oq309, hq309⟩ := q309
                      obtain ⟨xq309, fq309_0, gq309, efq309_0, afq309_0, bfq309_0, uq309_0, uq309_1, uq309_2, uq309_3, yq309_0, yq309_1⟩ := wq309
                      refine ⟨_, gq309, ?_⟩
                      show gz gPP gGG gcn _ _ 250 [some (.ref m), some (.int (zi qu)), some (.int (zi jn19v0)), some (.int (zi k1)), none] [] hq309 _
                      have sq309 := gSs.tr sq289 xq309 (by decide)
                      have s310 := (xq309.2.2.2.2.2 m 53 (by rw [tm]; decide)).trans s290
                      have s311 := (xq309.2.2.2.2.2 m 50 (by rw [tm]; decide)).trans s291
                      have s312 := (xq309.2.2.2.2.2 m 51 (by rw [tm]; decide)).trans s292
                      have s313 := (xq309.2.2.2.2.2 m 52 (by rw [tm]; decide)).trans s293
                      have s314 := (xq309.2.2.2.2.2 m 0 (by rw [tm]; decide)).trans s294
                      have s315 := (xq309.2.2.2.2.2 m 64 (by rw [tm]; decide)).trans s295
                      have s316 := (xq309.2.2.2.2.2 m 61 (by rw [tm]; decide)).trans s296
                      have s317 := (xq309.2.2.2.2.2 m 62 (by rw [tm]; decide)).trans s297
                      have pr318 := gTs.fr xq309.2 (by decide) pr298
                      have pr319 := gRn.fr xq309.2 (by decide) pr299
                      have pr320 := gRn.fr xq309.2 (by decide) pr300
                      have pr321 := gRn.fr xq309.2 (by decide) pr301
                      have pr322 := gRn.fr xq309.2 (by decide) pr302
                      have pr323 := gRn.fr xq309.2 (by decide) pr303
                      have pr324 := gRn.fr xq309.2 (by decide) pr304
                      have pr325 := gRn.fr xq309.2 (by decide) pr305
                      have pr326 := gRn.fr xq309.2 (by decide) pr306
                      have pr327 := gRn.fr xq309.2 (by decide) pr307
                      have pr328 := gRn.fr xq309.2 (by decide) pr308
                      refine gz_s 2 (pc' := 253) (L' := [some (.ref m), some (.int (zi qu)), some (.int (zi jn19v0)), some (.int (zi k1)), none]) (S' := [.int (zi 17), .ref m]) rfl ?_
                      refine gz_call rfl (by decide) rfl (by decide) (by decide) (gcal_of rfl rfl rfl (Nat.le_of_ble_eq_true rfl) (gJ.recv (G := gGG) sq309.1 tm rfl rfl)) (mw_putByte _ sq309.1 m tm 17 (by omega) fq309_0 efq309_0 (by omega) (eeB (eeB (eeT (eeT (eeB (eeT (eeM (eHt (eTb nb qu) (eeB (eeT (eeM (eeM ((0, 0, 0, fun _ => 0) : gWt) 216) 219) 67) 0) 64) jn188v0) 11) 8) ch) cw) 1) 1) (by omega) uq yq309_0 yq309_1) (fun q329 _ wq329 => ?_)
                      obtain ⟨pq329, oq329, hq329⟩ := q329
                      obtain ⟨xq329, fq329_0, gq329, efq329_0, afq329_0, bfq329_0, uq329_0, uq329_1, uq329_2, uq329_3, yq329_0, yq329_1⟩ := wq329
                      refine ⟨_, gq329, ?_⟩
                      show gz gPP gGG gcn _ _ 256 [some (.ref m), some (.int (zi qu)), some (.int (zi jn19v0)), some (.int (zi k1)), none] [] hq329 _
                      have sq329 := gSs.tr sq309 xq329 (by decide)
                      have s330 := (xq329.2.2.2.2.2 m 53 (by rw [tm]; decide)).trans s310
                      have s331 := (xq329.2.2.2.2.2 m 50 (by rw [tm]; decide)).trans s311
                      have s332 := (xq329.2.2.2.2.2 m 51 (by rw [tm]; decide)).trans s312
                      have s333 := (xq329.2.2.2.2.2 m 52 (by rw [tm]; decide)).trans s313
                      have s334 := (xq329.2.2.2.2.2 m 0 (by rw [tm]; decide)).trans s314
                      have s335 := (xq329.2.2.2.2.2 m 64 (by rw [tm]; decide)).trans s315
                      have s336 := (xq329.2.2.2.2.2 m 61 (by rw [tm]; decide)).trans s316
                      have s337 := (xq329.2.2.2.2.2 m 62 (by rw [tm]; decide)).trans s317
                      have pr338 := gTs.fr xq329.2 (by decide) pr318
                      have pr339 := gRn.fr xq329.2 (by decide) pr319
                      have pr340 := gRn.fr xq329.2 (by decide) pr320
                      have pr341 := gRn.fr xq329.2 (by decide) pr321
                      have pr342 := gRn.fr xq329.2 (by decide) pr322
                      have pr343 := gRn.fr xq329.2 (by decide) pr323
                      have pr344 := gRn.fr xq329.2 (by decide) pr324
                      have pr345 := gRn.fr xq329.2 (by decide) pr325
                      have pr346 := gRn.fr xq329.2 (by decide) pr326
                      have pr347 := gRn.fr xq329.2 (by decide) pr327
                      have pr348 := gRn.fr xq329.2 (by decide) pr328
                      refine gz_s 2 (pc' := 258) (L' := [some (.ref m), some (.int (zi qu)), some (.int (zi jn19v0)), some (.int (zi k1)), none]) (S' := [.int (zi 0), .ref m]) rfl ?_
                      refine gz_call rfl (by decide) rfl (by decide) (by decide) (gcal_of rfl rfl rfl (Nat.le_of_ble_eq_true rfl) (gJ.recv (G := gGG) sq329.1 tm rfl rfl)) (mw_putByte _ sq329.1 m tm 0 (by omega) fq329_0 efq329_0 (by omega) (eeB (eeB (eeB (eeT (eeT (eeB (eeT (eeM (eHt (eTb nb qu) (eeB (eeT (eeM (eeM ((0, 0, 0, fun _ => 0) : gWt) 216) 219) 67) 0) 64) jn188v0) 11) 8) ch) cw) 1) 1) 17) (by omega) uq yq329_0 yq329_1) (fun q349 _ wq349 => ?_)
                      obtain ⟨pq349, oq349, hq349⟩ := q349
                      obtain ⟨xq349, fq349_0, gq349, efq349_0, afq349_0, bfq349_0, uq349_0, uq349_1, uq349_2, uq349_3, yq349_0, yq349_1⟩ := wq349
                      refine ⟨_, gq349, ?_⟩
                      show gz gPP gGG gcn _ _ 261 [some (.ref m), some (.int (zi qu)), some (.int (zi jn19v0)), some (.int (zi k1)), none] [] hq349 _
                      have sq349 := gSs.tr sq329 xq349 (by decide)
                      have s350 := (xq349.2.2.2.2.2 m 53 (by rw [tm]; decide)).trans s330
                      have s351 := (xq349.2.2.2.2.2 m 50 (by rw [tm]; decide)).trans s331
                      have s352 := (xq349.2.2.2.2.2 m 51 (by rw [tm]; decide)).trans s332
                      have s353 := (xq349.2.2.2.2.2 m 52 (by rw [tm]; decide)).trans s333
                      have s354 := (xq349.2.2.2.2.2 m 0 (by rw [tm]; decide)).trans s334
                      have s355 := (xq349.2.2.2.2.2 m 64 (by rw [tm]; decide)).trans s335
                      have s356 := (xq349.2.2.2.2.2 m 61 (by rw [tm]; decide)).trans s336
                      have s357 := (xq349.2.2.2.2.2 m 62 (by rw [tm]; decide)).trans s337
                      have pr358 := gTs.fr xq349.2 (by decide) pr338
                      have pr359 := gRn.fr xq349.2 (by decide) pr339
                      have pr360 := gRn.fr xq349.2 (by decide) pr340
                      have pr361 := gRn.fr xq349.2 (by decide) pr341
                      have pr362 := gRn.fr xq349.2 (by decide) pr342
                      have pr363 := gRn.fr xq349.2 (by decide) pr343
                      have pr364 := gRn.fr xq349.2 (by decide) pr344
                      have pr365 := gRn.fr xq349.2 (by decide) pr345
                      have pr366 := gRn.fr xq349.2 (by decide) pr346
                      have pr367 := gRn.fr xq349.2 (by decide) pr347
                      have pr368 := gRn.fr xq349.2 (by decide) pr348
                      refine gz_s 1 (pc' := 262) (L' := [some (.ref m), some (.int (zi qu)), some (.int (zi jn19v0)), some (.int (zi k1)), none]) (S' := [.ref m]) rfl ?_
                      refine gs_gtk rfl (by decide) rfl sq349.1 tm rfl rfl s353 ?_
                      by_cases hc369 : (iv : Int) ≤ 0
                      · refine gy_ifT (pc' := 288) rfl (by decide) (by decide) (by omega) hc369 ?_
                        have hk370 : eHd (eTb nb qu) n0 ch cw iv = eeB (eeB (eeB (eeB (eeT (eeT (eeB (eeT (eeM (eHt (eTb nb qu) (eeB (eeT (eeM (eeM ((0, 0, 0, fun _ => 0) : gWt) 216) 219) 67) 0) 64) jn188v0) 11) 8) ch) cw) 1) 1) 17) 0 := by unfold eHd; dsimp only; rw [if_neg (show ¬ 0 < iv by omega), hmk]
                        have hk370_1 : (eHd (eTb nb qu) n0 ch cw iv).1 = (eeB (eeB (eeB (eeB (eeT (eeT (eeB (eeT (eeM (eHt (eTb nb qu) (eeB (eeT (eeM (eeM ((0, 0, 0, fun _ => 0) : gWt) 216) 219) 67) 0) 64) jn188v0) 11) 8) ch) cw) 1) 1) 17) 0).1 := by rw [hk370]
                        have hk370_21 : (eHd (eTb nb qu) n0 ch cw iv).2.1 = (eeB (eeB (eeB (eeB (eeT (eeT (eeB (eeT (eeM (eHt (eTb nb qu) (eeB (eeT (eeM (eeM ((0, 0, 0, fun _ => 0) : gWt) 216) 219) 67) 0) 64) jn188v0) 11) 8) ch) cw) 1) 1) 17) 0).2.1 := by rw [hk370]
                        have hk370_221 : (eHd (eTb nb qu) n0 ch cw iv).2.2.1 = (eeB (eeB (eeB (eeB (eeT (eeT (eeB (eeT (eeM (eHt (eTb nb qu) (eeB (eeT (eeM (eeM ((0, 0, 0, fun _ => 0) : gWt) 216) 219) 67) 0) 64) jn188v0) 11) 8) ch) cw) 1) 1) 17) 0).2.2.1 := by rw [hk370]
                        have hso371 : gSO ty (eHd (eTb nb qu) n0 ch cw iv) hq349 := by rw [hk370]; exact yq349_0
                        have hok372 : eeOk (eHd (eTb nb qu) n0 ch cw iv) := by rw [hk370]; exact yq349_1
                        have hok372c := hok372.cur
                        obtain ⟨c373, ec373, tc373⟩ := gJ.ref (k := 54) (G := gGG) sq349.1 tm rfl rfl rfl
                        obtain ⟨c374, ec374, tc374⟩ := gJ.ref (k := 55) (G := gGG) sq349.1 tm rfl rfl rfl
                        obtain ⟨tle, tsm⟩ := gTs.fn pr358 pr362 pr363 tc373 tc374 (by omega)
                        have hhd : ((eHd (eTb nb qu) n0 ch cw iv)).2.2.1 = 0 := by omega
                        refine gz_s 1 (pc' := 289) (L' := [some (.ref m), some (.int (zi qu)), some (.int (zi jn19v0)), some (.int (zi k1)), none]) (S' := [.ref m]) rfl ?_
                        refine gs_gtk rfl (by decide) rfl sq349.1 tm rfl rfl s350 ?_
                        by_cases hc375 : ¬ (n0 : Int) = 0
                        · refine gy_ifT (pc' := 304) rfl (by decide) (by decide) (by omega) hc375 ?_
                          have hk376 : eEk n0 iv (eCf C (eTb nb qu) cw ch (zup cw 8)) (zup cw 8 * zup ch 8).toNat tf tt th tl (eHd (eTb nb qu) n0 ch cw iv) 0 = eHd (eTb nb qu) n0 ch cw iv := eEk_0 (by omega)
                          have hk376_1 : (eEk n0 iv (eCf C (eTb nb qu) cw ch (zup cw 8)) (zup cw 8 * zup ch 8).toNat tf tt th tl (eHd (eTb nb qu) n0 ch cw iv) 0).1 = (eHd (eTb nb qu) n0 ch cw iv).1 := by rw [hk376]
                          have hk376_21 : (eEk n0 iv (eCf C (eTb nb qu) cw ch (zup cw 8)) (zup cw 8 * zup ch 8).toNat tf tt th tl (eHd (eTb nb qu) n0 ch cw iv) 0).2.1 = (eHd (eTb nb qu) n0 ch cw iv).2.1 := by rw [hk376]
                          have hk376_221 : (eEk n0 iv (eCf C (eTb nb qu) cw ch (zup cw 8)) (zup cw 8 * zup ch 8).toNat tf tt th tl (eHd (eTb nb qu) n0 ch cw iv) 0).2.2.1 = (eHd (eTb nb qu) n0 ch cw iv).2.2.1 := by rw [hk376]
                          have hso377 : gSO ty (eEk n0 iv (eCf C (eTb nb qu) cw ch (zup cw 8)) (zup cw 8 * zup ch 8).toNat tf tt th tl (eHd (eTb nb qu) n0 ch cw iv) 0) hq349 := by rw [hk376]; exact hso371
                          have hok378 : eeOk (eEk n0 iv (eCf C (eTb nb qu) cw ch (zup cw 8)) (zup cw 8 * zup ch 8).toNat tf tt th tl (eHd (eTb nb qu) n0 ch cw iv) 0) := by rw [hk376]; exact hok372
                          have hok378c := hok378.cur
                          refine gz_s 2 (pc' := 306) (L' := [some (.ref m), some (.int (zi qu)), some (.int (zi jn19v0)), some (.int (zi 0)), none]) (S' := []) rfl ?_
                          have lp379 : ∀ (fu : Nat) (h380 : gH) (k3 : Int) (wv : Int) (uv : Int) (bv : Int), (11 - k3).toNat < fu → gSs rT 1027 ty [1000, 1053, 1059, 1061, 1062, 1064, 1067, 1074, 1075, 31999, 32999, 33999, 34999, 36999, 37999, 38999, 39999, 40999, 41999, 42999] h h380 → (0 ≤ k3 ∧ k3 ≤ 10) → (0 ≤ wv ∧ wv ≤ 60000) → (0 ≤ uv ∧ uv ≤ 127) → (0 ≤ bv ∧ bv ≤ 0) → (n0 = 0 ∨ (4 * wv ≤ 1000 + 560 * gTl tf tt k3 + 3468 * k3)) → (n0 = 0 → (k3 = 0 ∧ wv ≤ 45000)) → (k3 ≤ n0) → (wv = (eEk n0 iv (eCf C (eTb nb qu) cw ch (zup cw 8)) (zup cw 8 * zup ch 8).toNat tf tt th tl (eHd (eTb nb qu) n0 ch cw iv) k3).1) → (uv = (eEk n0 iv (eCf C (eTb nb qu) cw ch (zup cw 8)) (zup cw 8 * zup ch 8).toNat tf tt th tl (eHd (eTb nb qu) n0 ch cw iv) k3).2.1) → (bv = (eEk n0 iv (eCf C (eTb nb qu) cw ch (zup cw 8)) (zup cw 8 * zup ch 8).toNat tf tt th tl (eHd (eTb nb qu) n0 ch cw iv) k3).2.2.1) → h380.2.2.2.2 m 53 = .int (zi n0) → h380.2.2.2.2 m 50 = .int (zi cw) → h380.2.2.2.2 m 51 = .int (zi ch) → h380.2.2.2.2 m 52 = .int (zi iv) → h380.2.2.2.2 m 0 = .int (zi jn1v0) → h380.2.2.2.2 m 64 = .int (zi fq24_0) → h380.2.2.2.2 m 54 = .ref c373 → h380.2.2.2.2 m 55 = .ref c374 → h380.2.2.2.2 m 59 = .int (zi wv) → h380.2.2.2.2 m 61 = .int (zi uv) → h380.2.2.2.2 m 62 = .int (zi bv) → gTs ty n0 h380 → gRn 1024 ty 26 C h380 → gRn 256 ty 8 nb h380 → gRn 64 ty 10 (fun i9 => eZz ((i9 : Nat) : Int)) h380 → gRn 10 ty 27 tf h380 → gRn 10 ty 28 tt h380 → gRn 10 ty 29 th h380 → gRn 10 ty 30 tl h380 → gRn 64 ty 31 cm h380 → (∀ j9 : Nat, j9 < n0.toNat → tf j9 = 0 → tt j9 = 0) → gRn 64 ty 34 (eTb nb qu) h380 → gRn (64 * fq24_0).toNat ty 33 (eCf C (eTb nb qu) cw ch (zup cw 8)) h380 → gSO ty (eEk n0 iv (eCf C (eTb nb qu) cw ch (zup cw 8)) (zup cw 8 * zup ch 8).toNat tf tt th tl (eHd (eTb nb qu) n0 ch cw iv) k3) h380 → eeOk (eEk n0 iv (eCf C (eTb nb qu) cw ch (zup cw 8)) (zup cw 8 * zup ch 8).toNat tf tt th tl (eHd (eTb nb qu) n0 ch cw iv) k3) → gz gPP gGG gcn (d + 6) gt183 306 [some (.ref m), some (.int (zi qu)), some (.int (zi jn19v0)), some (.int (zi k3)), none] [] h380 (fun q _ => gSs rT 1027 ty [1000, 1053, 1059, 1061, 1062, 1064, 1067, 1074, 1075, 31999, 32999, 33999, 34999, 36999, 37999, 38999, 39999, 40999, 41999, 42999] h q.2.2 ∧ ∃ z n1 w1 t1 : Int, gfin gt183 q.1 q.2.1 = some (some (.int (zi z))) ∧ 0 ≤ z ∧ z ≤ 60000 ∧ q.2.2.2.2.2.2 m 53 = .int (zi n1) ∧ 0 ≤ n1 ∧ n1 ≤ 10 ∧ q.2.2.2.2.2.2 m 59 = .int (zi w1) ∧ 0 ≤ w1 ∧ w1 ≤ 60000 ∧ q.2.2.2.2.2.2 m 0 = .int (zi t1) ∧ 0 ≤ t1 ∧ t1 ≤ 2 ∧ ((qu < 1 ∨ 100 < qu) → t1 = 1) ∧ ((1 ≤ qu ∧ qu ≤ 100 ∧ cw = 0) → t1 = 2) ∧ ((1 ≤ qu ∧ qu ≤ 100 ∧ ¬ cw = 0) → (t1 = 0 ∧ z = w1 ∧ n1 = 0)) ∧ (¬ (1 ≤ qu ∧ qu ≤ 100 ∧ ¬ cw = 0) → n1 = n0) ∧ (w1 = (eEx qu cw (eEn (eTb nb qu) n0 ch cw iv (eCf C (eTb nb qu) cw ch (zup cw 8)) (zup cw 8 * zup ch 8).toNat tf tt th tl) sg).1) ∧ (gTs ty n1 q.2.2) ∧ (gSO ty (eEx qu cw (eEn (eTb nb qu) n0 ch cw iv (eCf C (eTb nb qu) cw ch (zup cw 8)) (zup cw 8 * zup ch 8).toNat tf tt th tl) sg) q.2.2) ∧ (gRn 64 ty 31 (eCm qu cw cm) q.2.2)) := by
                            intro fu
                            induction fu with
                            | zero => intro h380 k3 wv uv bv hm; exact absurd hm (Nat.not_lt_zero _)
                            | succ fu ihlp379 =>
                              intro h380 k3 wv uv bv lp379m sh380 lp379f0 lp379f1 lp379f2 lp379f3 lp379f4 lp379f5 lp379f6 lp379f7 lp379f8 lp379f9 lp379k0 lp379k1 lp379k2 lp379k3 lp379k4 lp379k5 lp379k6 lp379k7 lp379k8 lp379k9 lp379k10 lp379k11 lp379k12 lp379k13 lp379k14 lp379k15 lp379k16 lp379k17 lp379k18 lp379k19 lp379k20 lp379k21 lp379k22 lp379k23 lp379k24
                              have hl0 := gTl_le (f := tf) (t := tt) (k := k3) (n := n0) tle
                              refine gz_s 2 (pc' := 308) (L' := [some (.ref m), some (.int (zi qu)), some (.int (zi jn19v0)), some (.int (zi k3)), none]) (S' := [.ref m, .int (zi k3)]) rfl ?_
                              refine gs_gtk rfl (by decide) rfl sh380.1 tm rfl rfl lp379k0 ?_
                              by_cases hc381 : (n0 : Int) ≤ k3
                              · refine gy_icT (pc' := 348) rfl (by decide) (by decide) (by omega) (by omega) hc381 ?_
                                refine gz_s 2 (pc' := 352) (L' := [some (.ref m), some (.int (zi qu)), some (.int (zi jn19v0)), some (.int (zi k3)), none]) (S' := [.int (zi 217), .ref m]) rfl ?_
                                refine gz_call rfl (by decide) rfl (by decide) (by decide) (gcal_of rfl rfl rfl (Nat.le_of_ble_eq_true rfl) (gJ.recv (G := gGG) sh380.1 tm rfl rfl)) (mw_putMarker _ sh380.1 m tm 217 (by omega) wv lp379k8 (by omega) (eEk n0 iv (eCf C (eTb nb qu) cw ch (zup cw 8)) (zup cw 8 * zup ch 8).toNat tf tt th tl (eHd (eTb nb qu) n0 ch cw iv) k3) (by omega) uq lp379k23 lp379k24) (fun q382 _ wq382 => ?_)
                                obtain ⟨pq382, oq382, hq382⟩ := q382
                                obtain ⟨xq382, fq382_0, gq382, efq382_0, afq382_0, bfq382_0, uq382_0, uq382_1, uq382_2, uq382_3, yq382_0, yq382_1⟩ := wq382
                                refine ⟨_, gq382, ?_⟩
                                show gz gPP gGG gcn _ _ 355 [some (.ref m), some (.int (zi qu)), some (.int (zi jn19v0)), some (.int (zi k3)), none] [] hq382 _
                                have sq382 := gSs.tr sh380 xq382 (by decide)
                                have s383 := (xq382.2.2.2.2.2 m 53 (by rw [tm]; decide)).trans lp379k0
                                have s384 := (xq382.2.2.2.2.2 m 50 (by rw [tm]; decide)).trans lp379k1
                                have s385 := (xq382.2.2.2.2.2 m 51 (by rw [tm]; decide)).trans lp379k2
                                have s386 := (xq382.2.2.2.2.2 m 52 (by rw [tm]; decide)).trans lp379k3
                                have s387 := (xq382.2.2.2.2.2 m 0 (by rw [tm]; decide)).trans lp379k4
                                have s388 := (xq382.2.2.2.2.2 m 64 (by rw [tm]; decide)).trans lp379k5
                                have s389 := (xq382.2.2.2.2.2 m 54 (by rw [tm]; decide)).trans lp379k6
                                have s390 := (xq382.2.2.2.2.2 m 55 (by rw [tm]; decide)).trans lp379k7
                                have s391 := (xq382.2.2.2.2.2 m 61 (by rw [tm]; decide)).trans lp379k9
                                have s392 := (xq382.2.2.2.2.2 m 62 (by rw [tm]; decide)).trans lp379k10
                                have pr393 := gTs.fr xq382.2 (by decide) lp379k11
                                have pr394 := gRn.fr xq382.2 (by decide) lp379k12
                                have pr395 := gRn.fr xq382.2 (by decide) lp379k13
                                have pr396 := gRn.fr xq382.2 (by decide) lp379k14
                                have pr397 := gRn.fr xq382.2 (by decide) lp379k15
                                have pr398 := gRn.fr xq382.2 (by decide) lp379k16
                                have pr399 := gRn.fr xq382.2 (by decide) lp379k17
                                have pr400 := gRn.fr xq382.2 (by decide) lp379k18
                                have pr401 := gRn.fr xq382.2 (by decide) lp379k19
                                have pr402 := gRn.fr xq382.2 (by decide) lp379k21
                                have pr403 := gRn.fr xq382.2 (by decide) lp379k22
                                have hk404 : eEx qu cw (eEn (eTb nb qu) n0 ch cw iv (eCf C (eTb nb qu) cw ch (zup cw 8)) (zup cw 8 * zup ch 8).toNat tf tt th tl) sg = eeM (eEk n0 iv (eCf C (eTb nb qu) cw ch (zup cw 8)) (zup cw 8 * zup ch 8).toNat tf tt th tl (eHd (eTb nb qu) n0 ch cw iv) k3) 217 := by rw [eEx_y hok]; exact eEk_e (by omega)
                                have hk404_1 : (eEx qu cw (eEn (eTb nb qu) n0 ch cw iv (eCf C (eTb nb qu) cw ch (zup cw 8)) (zup cw 8 * zup ch 8).toNat tf tt th tl) sg).1 = (eeM (eEk n0 iv (eCf C (eTb nb qu) cw ch (zup cw 8)) (zup cw 8 * zup ch 8).toNat tf tt th tl (eHd (eTb nb qu) n0 ch cw iv) k3) 217).1 := by rw [hk404]
                                have hk404_21 : (eEx qu cw (eEn (eTb nb qu) n0 ch cw iv (eCf C (eTb nb qu) cw ch (zup cw 8)) (zup cw 8 * zup ch 8).toNat tf tt th tl) sg).2.1 = (eeM (eEk n0 iv (eCf C (eTb nb qu) cw ch (zup cw 8)) (zup cw 8 * zup ch 8).toNat tf tt th tl (eHd (eTb nb qu) n0 ch cw iv) k3) 217).2.1 := by rw [hk404]
                                have hk404_221 : (eEx qu cw (eEn (eTb nb qu) n0 ch cw iv (eCf C (eTb nb qu) cw ch (zup cw 8)) (zup cw 8 * zup ch 8).toNat tf tt th tl) sg).2.2.1 = (eeM (eEk n0 iv (eCf C (eTb nb qu) cw ch (zup cw 8)) (zup cw 8 * zup ch 8).toNat tf tt th tl (eHd (eTb nb qu) n0 ch cw iv) k3) 217).2.2.1 := by rw [hk404]
                                have hso405 : gSO ty (eEx qu cw (eEn (eTb nb qu) n0 ch cw iv (eCf C (eTb nb qu) cw ch (zup cw 8)) (zup cw 8 * zup ch 8).toNat tf tt th tl) sg) hq382 := by rw [hk404]; exact yq382_0
                                have hok406 : eeOk (eEx qu cw (eEn (eTb nb qu) n0 ch cw iv (eCf C (eTb nb qu) cw ch (zup cw 8)) (zup cw 8 * zup ch 8).toNat tf tt th tl) sg) := by rw [hk404]; exact yq382_1
                                have hok406c := hok406.cur
                                have hex : eEx qu cw (eEn (eTb nb qu) n0 ch cw iv (eCf C (eTb nb qu) cw ch (zup cw 8)) (zup cw 8 * zup ch 8).toNat tf tt th tl) sg = (eEn (eTb nb qu) n0 ch cw iv (eCf C (eTb nb qu) cw ch (zup cw 8)) (zup cw 8 * zup ch 8).toNat tf tt th tl) := eEx_y hok
                                refine gz_s 2 (pc' := 357) (L' := [some (.ref m), some (.int (zi qu)), some (.int (zi jn19v0)), some (.int (zi k3)), none]) (S' := [.int (zi 0), .ref m]) rfl ?_
                                refine gs_put rfl (by decide) rfl sq382 tm rfl rfl rfl rfl (Or.inl rfl) (by decide) (by omega) (by omega) (fun h407 sh407 eh407 fh407 => ?_)
                                have pr408 := gTs.pt fh407 tm (by decide) pr393
                                have pr409 := gRn.pt fh407 tm (by decide) pr394
                                have pr410 := gRn.pt fh407 tm (by decide) pr395
                                have pr411 := gRn.pt fh407 tm (by decide) pr396
                                have pr412 := gRn.pt fh407 tm (by decide) pr397
                                have pr413 := gRn.pt fh407 tm (by decide) pr398
                                have pr414 := gRn.pt fh407 tm (by decide) pr399
                                have pr415 := gRn.pt fh407 tm (by decide) pr400
                                have pr416 := gRn.pt fh407 tm (by decide) pr401
                                have pr417 := gRn.pt fh407 tm (by decide) pr402
                                have pr418 := gRn.pt fh407 tm (by decide) pr403
                                have pr419 := gSO.pt fh407 tm (by decide) hso405
                                have s420 := (fh407 m 50 (fun q => absurd q.2 (by decide))).trans s384
                                have s421 := (fh407 m 51 (fun q => absurd q.2 (by decide))).trans s385
                                have s422 := (fh407 m 52 (fun q => absurd q.2 (by decide))).trans s386
                                have s423 := (fh407 m 0 (fun q => absurd q.2 (by decide))).trans s387
                                have s424 := (fh407 m 64 (fun q => absurd q.2 (by decide))).trans s388
                                have s425 := (fh407 m 54 (fun q => absurd q.2 (by decide))).trans s389
                                have s426 := (fh407 m 55 (fun q => absurd q.2 (by decide))).trans s390
                                have s427 := (fh407 m 61 (fun q => absurd q.2 (by decide))).trans s391
                                have s428 := (fh407 m 62 (fun q => absurd q.2 (by decide))).trans s392
                                have s429 := (fh407 m 59 (fun q => absurd q.2 (by decide))).trans efq382_0
                                refine gz_s 2 (pc' := 362) (L' := [some (.ref m), some (.int (zi qu)), some (.int (zi jn19v0)), some (.int (zi 0)), none]) (S' := []) rfl ?_
                                obtain ⟨c431, ec431, tc431⟩ := gJ.ref (k := 58) (G := gGG) sh407.1 tm rfl rfl rfl
                                have hoz432 : gOz ty 31 (-1) 0 h407 := ⟨_, gRow.mk uq tc431 (by decide) (fun _ => rfl), fun j hj => absurd hj (by omega)⟩
                                have lp430 : ∀ (fu : Nat) (h433 : gH) (kz : Int), (65 - kz).toNat < fu → gSs rT 1027 ty [1000, 1053, 1059, 1061, 1062, 1064, 1067, 1074, 1075, 31999, 32999, 33999, 34999, 36999, 37999, 38999, 39999, 40999, 41999, 42999] h h433 → (0 ≤ kz ∧ kz ≤ 64) → h433.2.2.2.2 m 50 = .int (zi cw) → h433.2.2.2.2 m 51 = .int (zi ch) → h433.2.2.2.2 m 52 = .int (zi iv) → h433.2.2.2.2 m 0 = .int (zi jn1v0) → h433.2.2.2.2 m 64 = .int (zi fq24_0) → h433.2.2.2.2 m 54 = .ref c373 → h433.2.2.2.2 m 55 = .ref c374 → h433.2.2.2.2 m 61 = .int (zi uv) → h433.2.2.2.2 m 62 = .int (zi bv) → h433.2.2.2.2 m 59 = .int (zi fq382_0) → h433.2.2.2.2 m 53 = .int (zi 0) → gRn 1024 ty 26 C h433 → gRn 256 ty 8 nb h433 → gRn 64 ty 10 (fun i9 => eZz ((i9 : Nat) : Int)) h433 → gRn 10 ty 27 tf h433 → gRn 10 ty 28 tt h433 → gRn 10 ty 29 th h433 → gRn 10 ty 30 tl h433 → (∀ j9 : Nat, j9 < n0.toNat → tf j9 = 0 → tt j9 = 0) → gRn 64 ty 34 (eTb nb qu) h433 → gRn (64 * fq24_0).toNat ty 33 (eCf C (eTb nb qu) cw ch (zup cw 8)) h433 → eeOk (eEx qu cw (eEn (eTb nb qu) n0 ch cw iv (eCf C (eTb nb qu) cw ch (zup cw 8)) (zup cw 8 * zup ch 8).toNat tf tt th tl) sg) → gSO ty (eEx qu cw (eEn (eTb nb qu) n0 ch cw iv (eCf C (eTb nb qu) cw ch (zup cw 8)) (zup cw 8 * zup ch 8).toNat tf tt th tl) sg) h433 → gOz ty 31 (-1) kz h433 → gz gPP gGG gcn (d + 6) gt183 362 [some (.ref m), some (.int (zi qu)), some (.int (zi jn19v0)), some (.int (zi kz)), none] [] h433 (fun q _ => gSs rT 1027 ty [1000, 1053, 1059, 1061, 1062, 1064, 1067, 1074, 1075, 31999, 32999, 33999, 34999, 36999, 37999, 38999, 39999, 40999, 41999, 42999] h q.2.2 ∧ ∃ z n1 w1 t1 : Int, gfin gt183 q.1 q.2.1 = some (some (.int (zi z))) ∧ 0 ≤ z ∧ z ≤ 60000 ∧ q.2.2.2.2.2.2 m 53 = .int (zi n1) ∧ 0 ≤ n1 ∧ n1 ≤ 10 ∧ q.2.2.2.2.2.2 m 59 = .int (zi w1) ∧ 0 ≤ w1 ∧ w1 ≤ 60000 ∧ q.2.2.2.2.2.2 m 0 = .int (zi t1) ∧ 0 ≤ t1 ∧ t1 ≤ 2 ∧ ((qu < 1 ∨ 100 < qu) → t1 = 1) ∧ ((1 ≤ qu ∧ qu ≤ 100 ∧ cw = 0) → t1 = 2) ∧ ((1 ≤ qu ∧ qu ≤ 100 ∧ ¬ cw = 0) → (t1 = 0 ∧ z = w1 ∧ n1 = 0)) ∧ (¬ (1 ≤ qu ∧ qu ≤ 100 ∧ ¬ cw = 0) → n1 = n0) ∧ (w1 = (eEx qu cw (eEn (eTb nb qu) n0 ch cw iv (eCf C (eTb nb qu) cw ch (zup cw 8)) (zup cw 8 * zup ch 8).toNat tf tt th tl) sg).1) ∧ (gTs ty n1 q.2.2) ∧ (gSO ty (eEx qu cw (eEn (eTb nb qu) n0 ch cw iv (eCf C (eTb nb qu) cw ch (zup cw 8)) (zup cw 8 * zup ch 8).toNat tf tt th tl) sg) q.2.2) ∧ (gRn 64 ty 31 (eCm qu cw cm) q.2.2)) := by
                                  intro fu
                                  induction fu with
                                  | zero => intro h433 kz hm; exact absurd hm (Nat.not_lt_zero _)
                                  | succ fu ihlp430 =>
                                    intro h433 kz lp430m sh433 lp430f0 lp430k0 lp430k1 lp430k2 lp430k3 lp430k4 lp430k5 lp430k6 lp430k7 lp430k8 lp430k9 lp430k10 lp430k11 lp430k12 lp430k13 lp430k14 lp430k15 lp430k16 lp430k17 lp430k18 lp430k19 lp430k20 lp430k21 lp430k22 lp430k23
                                    refine gz_s 2 (pc' := 365) (L' := [some (.ref m), some (.int (zi qu)), some (.int (zi jn19v0)), some (.int (zi kz)), none]) (S' := [.int (zi 64), .int (zi kz)]) rfl ?_
                                    by_cases hc434 : (64 : Int) ≤ kz
                                    · refine gy_icT (pc' := 381) rfl (by decide) (by decide) (by omega) (by omega) hc434 ?_
                                      have hoz9 : gOz ty 31 (-1) 64 h433 := by have e9 := lp430k23; rwa [(by omega : kz = 64)] at e9
                                      have hts : gTs ty 0 h433 := gTs.anew (gRow.mk uq tc373 (by decide) (fun _ => rfl)) (gRow.mk uq tc374 (by decide) (fun _ => rfl)) hoz9
                                      refine gz_s 1 (pc' := 382) (L' := [some (.ref m), some (.int (zi qu)), some (.int (zi jn19v0)), some (.int (zi kz)), none]) (S' := [.ref m]) rfl ?_
                                      refine gs_gtk rfl (by decide) rfl sh433.1 tm rfl rfl lp430k9 ?_
                                      have hrw435 : gRn 64 ty 31 (eCm qu cw cm) h433 := by
                                        rw [eCm_y hok]; exact gOz.Rn (by decide) hoz9
                                      exact gz_end (I := .ireturn) (len := 1) rfl (Or.inl rfl) ⟨sh433, fq382_0, 0, fq382_0, jn1v0, rfl, (by omega), (by omega), lp430k10, (by omega), (by omega), lp430k9, (by omega), (by omega), lp430k3, (by omega), (by omega), (by omega), (by omega), (by omega), (by omega), (by omega), hts, lp430k22, hrw435⟩
                                    · refine gy_icF rfl (by decide) (by decide) (by omega) (by omega) hc434 ?_
                                      obtain ⟨f9, rf9, z9⟩ := lp430k23
                                      refine gz_s 1 (pc' := 369) (L' := [some (.ref m), some (.int (zi qu)), some (.int (zi jn19v0)), some (.int (zi kz)), none]) (S' := [.ref m]) rfl ?_
                                      refine gs_gtr rfl (by decide) rfl sh433.1 tm rfl rfl rfl (fun c436 ec436 tc436 => ?_)
                                      refine gz_s 2 (pc' := 374) (L' := [some (.ref m), some (.int (zi qu)), some (.int (zi jn19v0)), some (.int (zi kz)), none]) (S' := [.int (zi (-1)), .int (zi kz), .ref c436]) rfl ?_
                                      have hl437 : 64 ≤ h433.2.2.2.1 c436 ∧ h433.2.2.2.1 c436 ≤ 64 := gJ.rowl (G := gGG) sh433.1 tc436 rfl
                                      refine gs_ast rfl (by decide) sh433 tc436 rfl rfl rfl (by decide) (fun _ => rfl) (by omega) (by omega) (fun _ => (by decide : (31999 : Nat) ∈ ([1000, 1053, 1059, 1061, 1062, 1064, 1067, 1074, 1075, 31999, 32999, 33999, 34999, 36999, 37999, 38999, 39999, 40999, 41999, 42999] : List Nat))) (by omega) (by omega) (fun h438 sh438 eh438 fh438 => ?_)
                                      have pr439 := gRn.pt fh438 tc436 (by decide) lp430k11
                                      have pr440 := gRn.pt fh438 tc436 (by decide) lp430k12
                                      have pr441 := gRn.pt fh438 tc436 (by decide) lp430k13
                                      have pr442 := gRn.pt fh438 tc436 (by decide) lp430k14
                                      have pr443 := gRn.pt fh438 tc436 (by decide) lp430k15
                                      have pr444 := gRn.pt fh438 tc436 (by decide) lp430k16
                                      have pr445 := gRn.pt fh438 tc436 (by decide) lp430k17
                                      have pr446 := gRn.pt fh438 tc436 (by decide) lp430k19
                                      have pr447 := gRn.pt fh438 tc436 (by decide) lp430k20
                                      have pr448 := gSO.pt fh438 tc436 (by decide) lp430k22
                                      have pr449 := gRow.put (i := kz) (z := (-1)) uq tc436 (by decide) fh438 eh438 (by omega) (by omega) rf9
                                      have s450 := (fh438 m 50 (fun q => absurd (((tm).symm.trans (congrArg ty q.1)).trans tc436) (by decide))).trans lp430k0
                                      have s451 := (fh438 m 51 (fun q => absurd (((tm).symm.trans (congrArg ty q.1)).trans tc436) (by decide))).trans lp430k1
                                      have s452 := (fh438 m 52 (fun q => absurd (((tm).symm.trans (congrArg ty q.1)).trans tc436) (by decide))).trans lp430k2
                                      have s453 := (fh438 m 0 (fun q => absurd (((tm).symm.trans (congrArg ty q.1)).trans tc436) (by decide))).trans lp430k3
                                      have s454 := (fh438 m 64 (fun q => absurd (((tm).symm.trans (congrArg ty q.1)).trans tc436) (by decide))).trans lp430k4
                                      have s455 := (fh438 m 54 (fun q => absurd (((tm).symm.trans (congrArg ty q.1)).trans tc436) (by decide))).trans lp430k5
                                      have s456 := (fh438 m 55 (fun q => absurd (((tm).symm.trans (congrArg ty q.1)).trans tc436) (by decide))).trans lp430k6
                                      have s457 := (fh438 m 61 (fun q => absurd (((tm).symm.trans (congrArg ty q.1)).trans tc436) (by decide))).trans lp430k7
                                      have s458 := (fh438 m 62 (fun q => absurd (((tm).symm.trans (congrArg ty q.1)).trans tc436) (by decide))).trans lp430k8
                                      have s459 := (fh438 m 59 (fun q => absurd (((tm).symm.trans (congrArg ty q.1)).trans tc436) (by decide))).trans lp430k9
                                      have s460 := (fh438 m 53 (fun q => absurd (((tm).symm.trans (congrArg ty q.1)).trans tc436) (by decide))).trans lp430k10
                                      have s461 := (fh438 m 58 (fun q => absurd (((tm).symm.trans (congrArg ty q.1)).trans tc436) (by decide))).trans ec436
                                      have pr462 := gEl.set (i := kz) (z := (-1)) uq tc436 (by decide) eh438 (by omega) (by omega)
                                      have hoz463 : gOz ty 31 (-1) (kz + 1) h438 := gOz.step (by omega) pr449 z9
                                      refine gy_s 2 (pc' := 362) (L' := [some (.ref m), some (.int (zi qu)), some (.int (zi jn19v0)), some (.int ((zi kz) + zi 1)), none]) (S' := []) (L2 := [some (.ref m), some (.int (zi qu)), some (.int (zi jn19v0)), some (.int (zi (kz + 1))), none]) (S2 := []) rfl (by simp only [zi_add, zi_sub, zi_mul, zi_neg, zi_and1, zi_and7, zi_and15, zi_and31, zi_and255]) (by simp only [zi_add, zi_sub, zi_mul, zi_neg, zi_and1, zi_and7, zi_and15, zi_and31, zi_and255]) ?_
                                      exact gz_wk (ihlp430 h438 (kz + 1) (by omega) sh438 (by omega) s450 s451 s452 s453 s454 s455 s456 s457 s458 s459 s460 pr439 pr440 pr441 pr442 pr443 pr444 pr445 lp430k18 pr446 pr447 lp430k21 pr448 hoz463) (gLw.s (gLw.s (gLw.s (gLw.s (gLw.n gLw.z)))))
                                exact gz_wk (lp430 _ h407 0 (Nat.lt_succ_self _) sh407 (by omega) s420 s421 s422 s423 s424 s425 s426 s427 s428 s429 eh407 pr409 pr410 pr411 pr412 pr413 pr414 pr415 lp379k20 pr417 pr418 hok406 pr419 hoz432) (gLw.s (gLw.s (gLw.s (gLw.s (gLw.n gLw.z)))))
                              · refine gy_icF rfl (by decide) (by decide) (by omega) (by omega) hc381 ?_
                                refine gz_s 2 (pc' := 316) (L' := [some (.ref m), some (.int (zi qu)), some (.int (zi jn19v0)), some (.int (zi k3)), none]) (S' := [.ref m, .ref m]) rfl ?_
                                refine gs_gtk rfl (by decide) rfl sh380.1 tm rfl rfl lp379k6 ?_
                                refine gz_s 1 (pc' := 320) (L' := [some (.ref m), some (.int (zi qu)), some (.int (zi jn19v0)), some (.int (zi k3)), none]) (S' := [.int (zi k3), .ref c373, .ref m]) rfl ?_
                                have hl464 : 10 ≤ h380.2.2.2.1 c373 ∧ h380.2.2.2.1 c373 ≤ 10 := gJ.rowl (G := gGG) sh380.1 tc373 rfl
                                refine gs_ald rfl (by decide) sh380.1 tc373 rfl rfl rfl (by decide) (fun _ => rfl) (by omega) (by omega) (fun z465 ez465 az465 bz465 => ?_)
                                have hf466 := gRn.at (i := k3) (z := z465) lp379k15 tc373 ez465 (by omega) (by omega) (by omega)
                                refine gz_s 1 (pc' := 322) (L' := [some (.ref m), some (.int (zi qu)), some (.int (zi jn19v0)), some (.int (zi k3)), none]) (S' := [.ref m, .int (zi z465), .ref m]) rfl ?_
                                refine gs_gtk rfl (by decide) rfl sh380.1 tm rfl rfl lp379k7 ?_
                                refine gz_s 1 (pc' := 326) (L' := [some (.ref m), some (.int (zi qu)), some (.int (zi jn19v0)), some (.int (zi k3)), none]) (S' := [.int (zi k3), .ref c374, .int (zi z465), .ref m]) rfl ?_
                                have hl467 : 10 ≤ h380.2.2.2.1 c374 ∧ h380.2.2.2.1 c374 ≤ 10 := gJ.rowl (G := gGG) sh380.1 tc374 rfl
                                refine gs_ald rfl (by decide) sh380.1 tc374 rfl rfl rfl (by decide) (fun _ => rfl) (by omega) (by omega) (fun z468 ez468 az468 bz468 => ?_)
                                have hf469 := gRn.at (i := k3) (z := z468) lp379k16 tc374 ez468 (by omega) (by omega) (by omega)
                                have hl1 := gTl_st (f := tf) (t := tt) (k := k3) (a := z465) (b := z468) (by omega) hf466 hf469
                                have hl2 := gTl_le (f := tf) (t := tt) (k := k3 + 1) (n := n0) tle (by omega)
                                have hl3 := tle (k3).toNat (by omega)
                                rw [hf466, hf469] at hl3
                                have hl4 := lp379k20 (k3).toNat (by omega)
                                rw [hf466, hf469] at hl4
                                refine gz_s 1 (pc' := 328) (L' := [some (.ref m), some (.int (zi qu)), some (.int (zi jn19v0)), some (.int (zi k3)), none]) (S' := [.ref m, .int (zi z468), .int (zi z465), .ref m]) rfl ?_
                                refine gs_gtr rfl (by decide) rfl sh380.1 tm rfl rfl rfl (fun c470 ec470 tc470 => ?_)
                                refine gz_s 1 (pc' := 332) (L' := [some (.ref m), some (.int (zi qu)), some (.int (zi jn19v0)), some (.int (zi k3)), none]) (S' := [.int (zi k3), .ref c470, .int (zi z468), .int (zi z465), .ref m]) rfl ?_
                                have hl471 : 10 ≤ h380.2.2.2.1 c470 ∧ h380.2.2.2.1 c470 ≤ 10 := gJ.rowl (G := gGG) sh380.1 tc470 rfl
                                refine gs_ald rfl (by decide) sh380.1 tc470 rfl rfl rfl (by decide) (fun _ => rfl) (by omega) (by omega) (fun z472 ez472 az472 bz472 => ?_)
                                have hf473 := gRn.at (i := k3) (z := z472) lp379k17 tc470 ez472 (by omega) (by omega) (by omega)
                                refine gz_s 1 (pc' := 334) (L' := [some (.ref m), some (.int (zi qu)), some (.int (zi jn19v0)), some (.int (zi k3)), none]) (S' := [.ref m, .int (zi z472), .int (zi z468), .int (zi z465), .ref m]) rfl ?_
                                refine gs_gtr rfl (by decide) rfl sh380.1 tm rfl rfl rfl (fun c474 ec474 tc474 => ?_)
                                refine gz_s 1 (pc' := 338) (L' := [some (.ref m), some (.int (zi qu)), some (.int (zi jn19v0)), some (.int (zi k3)), none]) (S' := [.int (zi k3), .ref c474, .int (zi z472), .int (zi z468), .int (zi z465), .ref m]) rfl ?_
                                have hl475 : 10 ≤ h380.2.2.2.1 c474 ∧ h380.2.2.2.1 c474 ≤ 10 := gJ.rowl (G := gGG) sh380.1 tc474 rfl
                                refine gs_ald rfl (by decide) sh380.1 tc474 rfl rfl rfl (by decide) (fun _ => rfl) (by omega) (by omega) (fun z476 ez476 az476 bz476 => ?_)
                                have hf477 := gRn.at (i := k3) (z := z476) lp379k18 tc474 ez476 (by omega) (by omega) (by omega)
                                refine gz_call rfl (by decide) rfl (by decide) (by decide) (gcal_of rfl rfl rfl (Nat.le_of_ble_eq_true rfl) (gJ.recv (G := gGG) sh380.1 tm rfl rfl)) (mw_putScan _ sh380.1 m tm z465 (by omega) z468 (by omega) z472 (by omega) z476 (by omega) wv lp379k8 (by omega) uv lp379k9 (by omega) bv lp379k10 (by omega) fq24_0 lp379k5 (by omega) iv lp379k3 (by omega) (eCf C (eTb nb qu) cw ch (zup cw 8)) (eEk n0 iv (eCf C (eTb nb qu) cw ch (zup cw 8)) (zup cw 8 * zup ch 8).toNat tf tt th tl (eHd (eTb nb qu) n0 ch cw iv) k3) (by omega) (by omega) (by omega) (by omega) (by omega) uq lp379k23 lp379k24 lp379k22) (fun q478 _ wq478 => ?_)
                                obtain ⟨pq478, oq478, hq478⟩ := q478
                                obtain ⟨xq478, fq478_0, fq478_1, fq478_2, gq478, efq478_0, afq478_0, bfq478_0, efq478_1, afq478_1, bfq478_1, efq478_2, afq478_2, bfq478_2, uq478_0, uq478_1, uq478_2, uq478_3, uq478_4, yq478_0, yq478_1⟩ := wq478
                                refine ⟨_, gq478, ?_⟩
                                show gz gPP gGG gcn _ _ 342 [some (.ref m), some (.int (zi qu)), some (.int (zi jn19v0)), some (.int (zi k3)), none] [] hq478 _
                                have sq478 := gSs.tr sh380 xq478 (by decide)
                                have s479 := (xq478.2.2.2.2.2 m 53 (by rw [tm]; decide)).trans lp379k0
                                have s480 := (xq478.2.2.2.2.2 m 50 (by rw [tm]; decide)).trans lp379k1
                                have s481 := (xq478.2.2.2.2.2 m 51 (by rw [tm]; decide)).trans lp379k2
                                have s482 := (xq478.2.2.2.2.2 m 52 (by rw [tm]; decide)).trans lp379k3
                                have s483 := (xq478.2.2.2.2.2 m 0 (by rw [tm]; decide)).trans lp379k4
                                have s484 := (xq478.2.2.2.2.2 m 64 (by rw [tm]; decide)).trans lp379k5
                                have s485 := (xq478.2.2.2.2.2 m 54 (by rw [tm]; decide)).trans lp379k6
                                have s486 := (xq478.2.2.2.2.2 m 55 (by rw [tm]; decide)).trans lp379k7
                                have s487 := (xq478.2.2.2.2.2 m 56 (by rw [tm]; decide)).trans ec470
                                have s488 := (xq478.2.2.2.2.2 m 57 (by rw [tm]; decide)).trans ec474
                                have pr489 := gTs.fr xq478.2 (by decide) lp379k11
                                have pr490 := gRn.fr xq478.2 (by decide) lp379k12
                                have pr491 := gRn.fr xq478.2 (by decide) lp379k13
                                have pr492 := gRn.fr xq478.2 (by decide) lp379k14
                                have pr493 := gRn.fr xq478.2 (by decide) lp379k15
                                have pr494 := gRn.fr xq478.2 (by decide) lp379k16
                                have pr495 := gRn.fr xq478.2 (by decide) lp379k17
                                have pr496 := gRn.fr xq478.2 (by decide) lp379k18
                                have pr497 := gRn.fr xq478.2 (by decide) lp379k19
                                have pr498 := gRn.fr xq478.2 (by decide) lp379k21
                                have pr499 := gRn.fr xq478.2 (by decide) lp379k22
                                have hk500 : eEk n0 iv (eCf C (eTb nb qu) cw ch (zup cw 8)) (zup cw 8 * zup ch 8).toNat tf tt th tl (eHd (eTb nb qu) n0 ch cw iv) (k3 + 1) = eSc iv z465 z468 z472 z476 (eCf C (eTb nb qu) cw ch (zup cw 8)) (fq24_0).toNat (eEk n0 iv (eCf C (eTb nb qu) cw ch (zup cw 8)) (zup cw 8 * zup ch 8).toNat tf tt th tl (eHd (eTb nb qu) n0 ch cw iv) k3) := by rw [hmn]; exact eEk_s (by omega) (by omega) hf466 hf469 hf473 hf477
                                have hk500_1 : (eEk n0 iv (eCf C (eTb nb qu) cw ch (zup cw 8)) (zup cw 8 * zup ch 8).toNat tf tt th tl (eHd (eTb nb qu) n0 ch cw iv) (k3 + 1)).1 = (eSc iv z465 z468 z472 z476 (eCf C (eTb nb qu) cw ch (zup cw 8)) (fq24_0).toNat (eEk n0 iv (eCf C (eTb nb qu) cw ch (zup cw 8)) (zup cw 8 * zup ch 8).toNat tf tt th tl (eHd (eTb nb qu) n0 ch cw iv) k3)).1 := by rw [hk500]
                                have hk500_21 : (eEk n0 iv (eCf C (eTb nb qu) cw ch (zup cw 8)) (zup cw 8 * zup ch 8).toNat tf tt th tl (eHd (eTb nb qu) n0 ch cw iv) (k3 + 1)).2.1 = (eSc iv z465 z468 z472 z476 (eCf C (eTb nb qu) cw ch (zup cw 8)) (fq24_0).toNat (eEk n0 iv (eCf C (eTb nb qu) cw ch (zup cw 8)) (zup cw 8 * zup ch 8).toNat tf tt th tl (eHd (eTb nb qu) n0 ch cw iv) k3)).2.1 := by rw [hk500]
                                have hk500_221 : (eEk n0 iv (eCf C (eTb nb qu) cw ch (zup cw 8)) (zup cw 8 * zup ch 8).toNat tf tt th tl (eHd (eTb nb qu) n0 ch cw iv) (k3 + 1)).2.2.1 = (eSc iv z465 z468 z472 z476 (eCf C (eTb nb qu) cw ch (zup cw 8)) (fq24_0).toNat (eEk n0 iv (eCf C (eTb nb qu) cw ch (zup cw 8)) (zup cw 8 * zup ch 8).toNat tf tt th tl (eHd (eTb nb qu) n0 ch cw iv) k3)).2.2.1 := by rw [hk500]
                                have hso501 : gSO ty (eEk n0 iv (eCf C (eTb nb qu) cw ch (zup cw 8)) (zup cw 8 * zup ch 8).toNat tf tt th tl (eHd (eTb nb qu) n0 ch cw iv) (k3 + 1)) hq478 := by rw [hk500]; exact yq478_0
                                have hok502 : eeOk (eEk n0 iv (eCf C (eTb nb qu) cw ch (zup cw 8)) (zup cw 8 * zup ch 8).toNat tf tt th tl (eHd (eTb nb qu) n0 ch cw iv) (k3 + 1)) := by rw [hk500]; exact yq478_1
                                have hok502c := hok502.cur
                                refine gy_s 2 (pc' := 306) (L' := [some (.ref m), some (.int (zi qu)), some (.int (zi jn19v0)), some (.int ((zi k3) + zi 1)), none]) (S' := []) (L2 := [some (.ref m), some (.int (zi qu)), some (.int (zi jn19v0)), some (.int (zi (k3 + 1))), none]) (S2 := []) rfl (by simp only [zi_add, zi_sub, zi_mul, zi_neg, zi_and1, zi_and7, zi_and15, zi_and31, zi_and255]) (by simp only [zi_add, zi_sub, zi_mul, zi_neg, zi_and1, zi_and7, zi_and15, zi_and31, zi_and255]) ?_
                                exact gz_wk (ihlp379 hq478 (k3 + 1) fq478_0 fq478_1 fq478_2 (by omega) sq478 (by omega) (by omega) (by omega) (by omega) (by omega) (by omega) (by omega) (by omega) (by omega) (by omega) s479 s480 s481 s482 s483 s484 s485 s486 efq478_0 efq478_1 efq478_2 pr489 pr490 pr491 pr492 pr493 pr494 pr495 pr496 pr497 lp379k20 pr498 pr499 hso501 hok502) (gLw.s (gLw.s (gLw.s (gLw.s (gLw.n gLw.z)))))
                          have hl9 : gTl tf tt 0 = 0 := rfl
                          exact gz_wk (lp379 _ hq349 0 fq349_0 0 0 (Nat.lt_succ_self _) sq349 (by omega) (by omega) (by omega) (by omega) (by omega) (by omega) (by omega) (by omega) (by omega) (by omega) s350 s351 s352 s353 s354 s355 ec373 ec374 efq349_0 s356 s357 pr358 pr359 pr360 pr361 pr362 pr363 pr364 pr365 pr366 lp179k18 pr367 pr368 hso377 hok378) (gLw.s (gLw.s (gLw.s (gLw.s (gLw.n gLw.z)))))
                        · refine gy_ifF rfl (by decide) (by decide) (by omega) hc375 ?_
                          refine gz_s 5 (pc' := 301) (L' := [some (.ref m), some (.int (zi qu)), some (.int (zi jn19v0)), some (.int (zi k1)), none]) (S' := [.int (zi 0), .int (zi 0), .int (zi 63), .int (zi 0), .ref m]) rfl ?_
                          refine gz_call rfl (by decide) rfl (by decide) (by decide) (gcal_of rfl rfl rfl (Nat.le_of_ble_eq_true rfl) (gJ.recv (G := gGG) sq349.1 tm rfl rfl)) (mw_putScan _ sq349.1 m tm 0 (by omega) 63 (by omega) 0 (by omega) 0 (by omega) fq349_0 efq349_0 (by omega) 0 s356 (by omega) 0 s357 (by omega) fq24_0 s355 (by omega) iv s353 (by omega) (eCf C (eTb nb qu) cw ch (zup cw 8)) (eHd (eTb nb qu) n0 ch cw iv) (by omega) (by omega) (by omega) (by omega) (by omega) uq hso371 hok372 pr368) (fun q503 _ wq503 => ?_)
                          obtain ⟨pq503, oq503, hq503⟩ := q503
                          obtain ⟨xq503, fq503_0, fq503_1, fq503_2, gq503, efq503_0, afq503_0, bfq503_0, efq503_1, afq503_1, bfq503_1, efq503_2, afq503_2, bfq503_2, uq503_0, uq503_1, uq503_2, uq503_3, uq503_4, yq503_0, yq503_1⟩ := wq503
                          refine ⟨_, gq503, ?_⟩
                          show gz gPP gGG gcn _ _ 304 [some (.ref m), some (.int (zi qu)), some (.int (zi jn19v0)), some (.int (zi k1)), none] [] hq503 _
                          have sq503 := gSs.tr sq349 xq503 (by decide)
                          have s504 := (xq503.2.2.2.2.2 m 53 (by rw [tm]; decide)).trans s350
                          have s505 := (xq503.2.2.2.2.2 m 50 (by rw [tm]; decide)).trans s351
                          have s506 := (xq503.2.2.2.2.2 m 51 (by rw [tm]; decide)).trans s352
                          have s507 := (xq503.2.2.2.2.2 m 52 (by rw [tm]; decide)).trans s353
                          have s508 := (xq503.2.2.2.2.2 m 0 (by rw [tm]; decide)).trans s354
                          have s509 := (xq503.2.2.2.2.2 m 64 (by rw [tm]; decide)).trans s355
                          have s510 := (xq503.2.2.2.2.2 m 54 (by rw [tm]; decide)).trans ec373
                          have s511 := (xq503.2.2.2.2.2 m 55 (by rw [tm]; decide)).trans ec374
                          have pr512 := gTs.fr xq503.2 (by decide) pr358
                          have pr513 := gRn.fr xq503.2 (by decide) pr359
                          have pr514 := gRn.fr xq503.2 (by decide) pr360
                          have pr515 := gRn.fr xq503.2 (by decide) pr361
                          have pr516 := gRn.fr xq503.2 (by decide) pr362
                          have pr517 := gRn.fr xq503.2 (by decide) pr363
                          have pr518 := gRn.fr xq503.2 (by decide) pr364
                          have pr519 := gRn.fr xq503.2 (by decide) pr365
                          have pr520 := gRn.fr xq503.2 (by decide) pr366
                          have pr521 := gRn.fr xq503.2 (by decide) pr367
                          have pr522 := gRn.fr xq503.2 (by decide) pr368
                          have hk523 : eEk n0 iv (eCf C (eTb nb qu) cw ch (zup cw 8)) (zup cw 8 * zup ch 8).toNat tf tt th tl (eHd (eTb nb qu) n0 ch cw iv) 0 = eSc iv 0 63 0 0 (eCf C (eTb nb qu) cw ch (zup cw 8)) (fq24_0).toNat (eHd (eTb nb qu) n0 ch cw iv) := by rw [hmn]; exact eEk_z (by omega)
                          have hk523_1 : (eEk n0 iv (eCf C (eTb nb qu) cw ch (zup cw 8)) (zup cw 8 * zup ch 8).toNat tf tt th tl (eHd (eTb nb qu) n0 ch cw iv) 0).1 = (eSc iv 0 63 0 0 (eCf C (eTb nb qu) cw ch (zup cw 8)) (fq24_0).toNat (eHd (eTb nb qu) n0 ch cw iv)).1 := by rw [hk523]
                          have hk523_21 : (eEk n0 iv (eCf C (eTb nb qu) cw ch (zup cw 8)) (zup cw 8 * zup ch 8).toNat tf tt th tl (eHd (eTb nb qu) n0 ch cw iv) 0).2.1 = (eSc iv 0 63 0 0 (eCf C (eTb nb qu) cw ch (zup cw 8)) (fq24_0).toNat (eHd (eTb nb qu) n0 ch cw iv)).2.1 := by rw [hk523]
                          have hk523_221 : (eEk n0 iv (eCf C (eTb nb qu) cw ch (zup cw 8)) (zup cw 8 * zup ch 8).toNat tf tt th tl (eHd (eTb nb qu) n0 ch cw iv) 0).2.2.1 = (eSc iv 0 63 0 0 (eCf C (eTb nb qu) cw ch (zup cw 8)) (fq24_0).toNat (eHd (eTb nb qu) n0 ch cw iv)).2.2.1 := by rw [hk523]
                          have hso524 : gSO ty (eEk n0 iv (eCf C (eTb nb qu) cw ch (zup cw 8)) (zup cw 8 * zup ch 8).toNat tf tt th tl (eHd (eTb nb qu) n0 ch cw iv) 0) hq503 := by rw [hk523]; exact yq503_0
                          have hok525 : eeOk (eEk n0 iv (eCf C (eTb nb qu) cw ch (zup cw 8)) (zup cw 8 * zup ch 8).toNat tf tt th tl (eHd (eTb nb qu) n0 ch cw iv) 0) := by rw [hk523]; exact yq503_1
                          have hok525c := hok525.cur
                          refine gz_s 2 (pc' := 306) (L' := [some (.ref m), some (.int (zi qu)), some (.int (zi jn19v0)), some (.int (zi 0)), none]) (S' := []) rfl ?_
                          have lp526 : ∀ (fu : Nat) (h527 : gH) (k3 : Int) (wv : Int) (uv : Int) (bv : Int), (11 - k3).toNat < fu → gSs rT 1027 ty [1000, 1053, 1059, 1061, 1062, 1064, 1067, 1074, 1075, 31999, 32999, 33999, 34999, 36999, 37999, 38999, 39999, 40999, 41999, 42999] h h527 → (0 ≤ k3 ∧ k3 ≤ 10) → (0 ≤ wv ∧ wv ≤ 60000) → (0 ≤ uv ∧ uv ≤ 127) → (0 ≤ bv ∧ bv ≤ 0) → (n0 = 0 ∨ (4 * wv ≤ 1000 + 560 * gTl tf tt k3 + 3468 * k3)) → (n0 = 0 → (k3 = 0 ∧ wv ≤ 45000)) → (k3 ≤ n0) → (wv = (eEk n0 iv (eCf C (eTb nb qu) cw ch (zup cw 8)) (zup cw 8 * zup ch 8).toNat tf tt th tl (eHd (eTb nb qu) n0 ch cw iv) k3).1) → (uv = (eEk n0 iv (eCf C (eTb nb qu) cw ch (zup cw 8)) (zup cw 8 * zup ch 8).toNat tf tt th tl (eHd (eTb nb qu) n0 ch cw iv) k3).2.1) → (bv = (eEk n0 iv (eCf C (eTb nb qu) cw ch (zup cw 8)) (zup cw 8 * zup ch 8).toNat tf tt th tl (eHd (eTb nb qu) n0 ch cw iv) k3).2.2.1) → h527.2.2.2.2 m 53 = .int (zi n0) → h527.2.2.2.2 m 50 = .int (zi cw) → h527.2.2.2.2 m 51 = .int (zi ch) → h527.2.2.2.2 m 52 = .int (zi iv) → h527.2.2.2.2 m 0 = .int (zi jn1v0) → h527.2.2.2.2 m 64 = .int (zi fq24_0) → h527.2.2.2.2 m 54 = .ref c373 → h527.2.2.2.2 m 55 = .ref c374 → h527.2.2.2.2 m 59 = .int (zi wv) → h527.2.2.2.2 m 61 = .int (zi uv) → h527.2.2.2.2 m 62 = .int (zi bv) → gTs ty n0 h527 → gRn 1024 ty 26 C h527 → gRn 256 ty 8 nb h527 → gRn 64 ty 10 (fun i9 => eZz ((i9 : Nat) : Int)) h527 → gRn 10 ty 27 tf h527 → gRn 10 ty 28 tt h527 → gRn 10 ty 29 th h527 → gRn 10 ty 30 tl h527 → gRn 64 ty 31 cm h527 → (∀ j9 : Nat, j9 < n0.toNat → tf j9 = 0 → tt j9 = 0) → gRn 64 ty 34 (eTb nb qu) h527 → gRn (64 * fq24_0).toNat ty 33 (eCf C (eTb nb qu) cw ch (zup cw 8)) h527 → gSO ty (eEk n0 iv (eCf C (eTb nb qu) cw ch (zup cw 8)) (zup cw 8 * zup ch 8).toNat tf tt th tl (eHd (eTb nb qu) n0 ch cw iv) k3) h527 → eeOk (eEk n0 iv (eCf C (eTb nb qu) cw ch (zup cw 8)) (zup cw 8 * zup ch 8).toNat tf tt th tl (eHd (eTb nb qu) n0 ch cw iv) k3) → gz gPP gGG gcn (d + 6) gt183 306 [some (.ref m), some (.int (zi qu)), some (.int (zi jn19v0)), some (.int (zi k3)), none] [] h527 (fun q _ => gSs rT 1027 ty [1000, 1053, 1059, 1061, 1062, 1064, 1067, 1074, 1075, 31999, 32999, 33999, 34999, 36999, 37999, 38999, 39999, 40999, 41999, 42999] h q.2.2 ∧ ∃ z n1 w1 t1 : Int, gfin gt183 q.1 q.2.1 = some (some (.int (zi z))) ∧ 0 ≤ z ∧ z ≤ 60000 ∧ q.2.2.2.2.2.2 m 53 = .int (zi n1) ∧ 0 ≤ n1 ∧ n1 ≤ 10 ∧ q.2.2.2.2.2.2 m 59 = .int (zi w1) ∧ 0 ≤ w1 ∧ w1 ≤ 60000 ∧ q.2.2.2.2.2.2 m 0 = .int (zi t1) ∧ 0 ≤ t1 ∧ t1 ≤ 2 ∧ ((qu < 1 ∨ 100 < qu) → t1 = 1) ∧ ((1 ≤ qu ∧ qu ≤ 100 ∧ cw = 0) → t1 = 2) ∧ ((1 ≤ qu ∧ qu ≤ 100 ∧ ¬ cw = 0) → (t1 = 0 ∧ z = w1 ∧ n1 = 0)) ∧ (¬ (1 ≤ qu ∧ qu ≤ 100 ∧ ¬ cw = 0) → n1 = n0) ∧ (w1 = (eEx qu cw (eEn (eTb nb qu) n0 ch cw iv (eCf C (eTb nb qu) cw ch (zup cw 8)) (zup cw 8 * zup ch 8).toNat tf tt th tl) sg).1) ∧ (gTs ty n1 q.2.2) ∧ (gSO ty (eEx qu cw (eEn (eTb nb qu) n0 ch cw iv (eCf C (eTb nb qu) cw ch (zup cw 8)) (zup cw 8 * zup ch 8).toNat tf tt th tl) sg) q.2.2) ∧ (gRn 64 ty 31 (eCm qu cw cm) q.2.2)) := by
                            intro fu
                            induction fu with
                            | zero => intro h527 k3 wv uv bv hm; exact absurd hm (Nat.not_lt_zero _)
                            | succ fu ihlp526 =>
                              intro h527 k3 wv uv bv lp526m sh527 lp526f0 lp526f1 lp526f2 lp526f3 lp526f4 lp526f5 lp526f6 lp526f7 lp526f8 lp526f9 lp526k0 lp526k1 lp526k2 lp526k3 lp526k4 lp526k5 lp526k6 lp526k7 lp526k8 lp526k9 lp526k10 lp526k11 lp526k12 lp526k13 lp526k14 lp526k15 lp526k16 lp526k17 lp526k18 lp526k19 lp526k20 lp526k21 lp526k22 lp526k23 lp526k24
                              have hl0 := gTl_le (f := tf) (t := tt) (k := k3) (n := n0) tle
                              refine gz_s 2 (pc' := 308) (L' := [some (.ref m), some (.int (zi qu)), some (.int (zi jn19v0)), some (.int (zi k3)), none]) (S' := [.ref m, .int (zi k3)]) rfl ?_
                              refine gs_gtk rfl (by decide) rfl sh527.1 tm rfl rfl lp526k0 ?_
                              refine gy_icT (pc' := 348) rfl (by decide) (by decide) (by omega) (by omega) (by first | (simp [zc]; done) | (simp only [zc]; omega)) ?_
                              refine gz_s 2 (pc' := 352) (L' := [some (.ref m), some (.int (zi qu)), some (.int (zi jn19v0)), some (.int (zi k3)), none]) (S' := [.int (zi 217), .ref m]) rfl ?_
                              refine gz_call rfl (by decide) rfl (by decide) (by decide) (gcal_of rfl rfl rfl (Nat.le_of_ble_eq_true rfl) (gJ.recv (G := gGG) sh527.1 tm rfl rfl)) (mw_putMarker _ sh527.1 m tm 217 (by omega) wv lp526k8 (by omega) (eEk n0 iv (eCf C (eTb nb qu) cw ch (zup cw 8)) (zup cw 8 * zup ch 8).toNat tf tt th tl (eHd (eTb nb qu) n0 ch cw iv) k3) (by omega) uq lp526k23 lp526k24) (fun q528 _ wq528 => ?_)
                              obtain ⟨pq528, oq528, hq528⟩ := q528
                              obtain ⟨xq528, fq528_0, gq528, efq528_0, afq528_0, bfq528_0, uq528_0, uq528_1, uq528_2, uq528_3, yq528_0, yq528_1⟩ := wq528
                              refine ⟨_, gq528, ?_⟩
                              show gz gPP gGG gcn _ _ 355 [some (.ref m), some (.int (zi qu)), some (.int (zi jn19v0)), some (.int (zi k3)), none] [] hq528 _
                              have sq528 := gSs.tr sh527 xq528 (by decide)
                              have s529 := (xq528.2.2.2.2.2 m 53 (by rw [tm]; decide)).trans lp526k0
                              have s530 := (xq528.2.2.2.2.2 m 50 (by rw [tm]; decide)).trans lp526k1
                              have s531 := (xq528.2.2.2.2.2 m 51 (by rw [tm]; decide)).trans lp526k2
                              have s532 := (xq528.2.2.2.2.2 m 52 (by rw [tm]; decide)).trans lp526k3
                              have s533 := (xq528.2.2.2.2.2 m 0 (by rw [tm]; decide)).trans lp526k4
                              have s534 := (xq528.2.2.2.2.2 m 64 (by rw [tm]; decide)).trans lp526k5
                              have s535 := (xq528.2.2.2.2.2 m 54 (by rw [tm]; decide)).trans lp526k6
                              have s536 := (xq528.2.2.2.2.2 m 55 (by rw [tm]; decide)).trans lp526k7
                              have s537 := (xq528.2.2.2.2.2 m 61 (by rw [tm]; decide)).trans lp526k9
                              have s538 := (xq528.2.2.2.2.2 m 62 (by rw [tm]; decide)).trans lp526k10
                              have pr539 := gTs.fr xq528.2 (by decide) lp526k11
                              have pr540 := gRn.fr xq528.2 (by decide) lp526k12
                              have pr541 := gRn.fr xq528.2 (by decide) lp526k13
                              have pr542 := gRn.fr xq528.2 (by decide) lp526k14
                              have pr543 := gRn.fr xq528.2 (by decide) lp526k15
                              have pr544 := gRn.fr xq528.2 (by decide) lp526k16
                              have pr545 := gRn.fr xq528.2 (by decide) lp526k17
                              have pr546 := gRn.fr xq528.2 (by decide) lp526k18
                              have pr547 := gRn.fr xq528.2 (by decide) lp526k19
                              have pr548 := gRn.fr xq528.2 (by decide) lp526k21
                              have pr549 := gRn.fr xq528.2 (by decide) lp526k22
                              have hk550 : eEx qu cw (eEn (eTb nb qu) n0 ch cw iv (eCf C (eTb nb qu) cw ch (zup cw 8)) (zup cw 8 * zup ch 8).toNat tf tt th tl) sg = eeM (eEk n0 iv (eCf C (eTb nb qu) cw ch (zup cw 8)) (zup cw 8 * zup ch 8).toNat tf tt th tl (eHd (eTb nb qu) n0 ch cw iv) k3) 217 := by rw [eEx_y hok]; exact eEk_e (by omega)
                              have hk550_1 : (eEx qu cw (eEn (eTb nb qu) n0 ch cw iv (eCf C (eTb nb qu) cw ch (zup cw 8)) (zup cw 8 * zup ch 8).toNat tf tt th tl) sg).1 = (eeM (eEk n0 iv (eCf C (eTb nb qu) cw ch (zup cw 8)) (zup cw 8 * zup ch 8).toNat tf tt th tl (eHd (eTb nb qu) n0 ch cw iv) k3) 217).1 := by rw [hk550]
                              have hk550_21 : (eEx qu cw (eEn (eTb nb qu) n0 ch cw iv (eCf C (eTb nb qu) cw ch (zup cw 8)) (zup cw 8 * zup ch 8).toNat tf tt th tl) sg).2.1 = (eeM (eEk n0 iv (eCf C (eTb nb qu) cw ch (zup cw 8)) (zup cw 8 * zup ch 8).toNat tf tt th tl (eHd (eTb nb qu) n0 ch cw iv) k3) 217).2.1 := by rw [hk550]
                              have hk550_221 : (eEx qu cw (eEn (eTb nb qu) n0 ch cw iv (eCf C (eTb nb qu) cw ch (zup cw 8)) (zup cw 8 * zup ch 8).toNat tf tt th tl) sg).2.2.1 = (eeM (eEk n0 iv (eCf C (eTb nb qu) cw ch (zup cw 8)) (zup cw 8 * zup ch 8).toNat tf tt th tl (eHd (eTb nb qu) n0 ch cw iv) k3) 217).2.2.1 := by rw [hk550]
                              have hso551 : gSO ty (eEx qu cw (eEn (eTb nb qu) n0 ch cw iv (eCf C (eTb nb qu) cw ch (zup cw 8)) (zup cw 8 * zup ch 8).toNat tf tt th tl) sg) hq528 := by rw [hk550]; exact yq528_0
                              have hok552 : eeOk (eEx qu cw (eEn (eTb nb qu) n0 ch cw iv (eCf C (eTb nb qu) cw ch (zup cw 8)) (zup cw 8 * zup ch 8).toNat tf tt th tl) sg) := by rw [hk550]; exact yq528_1
                              have hok552c := hok552.cur
                              have hex : eEx qu cw (eEn (eTb nb qu) n0 ch cw iv (eCf C (eTb nb qu) cw ch (zup cw 8)) (zup cw 8 * zup ch 8).toNat tf tt th tl) sg = (eEn (eTb nb qu) n0 ch cw iv (eCf C (eTb nb qu) cw ch (zup cw 8)) (zup cw 8 * zup ch 8).toNat tf tt th tl) := eEx_y hok
                              refine gz_s 2 (pc' := 357) (L' := [some (.ref m), some (.int (zi qu)), some (.int (zi jn19v0)), some (.int (zi k3)), none]) (S' := [.int (zi 0), .ref m]) rfl ?_
                              refine gs_put rfl (by decide) rfl sq528 tm rfl rfl rfl rfl (Or.inl rfl) (by decide) (by omega) (by omega) (fun h553 sh553 eh553 fh553 => ?_)
                              have pr554 := gTs.pt fh553 tm (by decide) pr539
                              have pr555 := gRn.pt fh553 tm (by decide) pr540
                              have pr556 := gRn.pt fh553 tm (by decide) pr541
                              have pr557 := gRn.pt fh553 tm (by decide) pr542
                              have pr558 := gRn.pt fh553 tm (by decide) pr543
                              have pr559 := gRn.pt fh553 tm (by decide) pr544
                              have pr560 := gRn.pt fh553 tm (by decide) pr545
                              have pr561 := gRn.pt fh553 tm (by decide) pr546
                              have pr562 := gRn.pt fh553 tm (by decide) pr547
                              have pr563 := gRn.pt fh553 tm (by decide) pr548
                              have pr564 := gRn.pt fh553 tm (by decide) pr549
                              have pr565 := gSO.pt fh553 tm (by decide) hso551
                              have s566 := (fh553 m 50 (fun q => absurd q.2 (by decide))).trans s530
                              have s567 := (fh553 m 51 (fun q => absurd q.2 (by decide))).trans s531
                              have s568 := (fh553 m 52 (fun q => absurd q.2 (by decide))).trans s532
                              have s569 := (fh553 m 0 (fun q => absurd q.2 (by decide))).trans s533
                              have s570 := (fh553 m 64 (fun q => absurd q.2 (by decide))).trans s534
                              have s571 := (fh553 m 54 (fun q => absurd q.2 (by decide))).trans s535
                              have s572 := (fh553 m 55 (fun q => absurd q.2 (by decide))).trans s536
                              have s573 := (fh553 m 61 (fun q => absurd q.2 (by decide))).trans s537
                              have s574 := (fh553 m 62 (fun q => absurd q.2 (by decide))).trans s538
                              have s575 := (fh553 m 59 (fun q => absurd q.2 (by decide))).trans efq528_0
                              refine gz_s 2 (pc' := 362) (L' := [some (.ref m), some (.int (zi qu)), some (.int (zi jn19v0)), some (.int (zi 0)), none]) (S' := []) rfl ?_
                              obtain ⟨c577, ec577, tc577⟩ := gJ.ref (k := 58) (G := gGG) sh553.1 tm rfl rfl rfl
                              have hoz578 : gOz ty 31 (-1) 0 h553 := ⟨_, gRow.mk uq tc577 (by decide) (fun _ => rfl), fun j hj => absurd hj (by omega)⟩
                              have lp576 : ∀ (fu : Nat) (h579 : gH) (kz : Int), (65 - kz).toNat < fu → gSs rT 1027 ty [1000, 1053, 1059, 1061, 1062, 1064, 1067, 1074, 1075, 31999, 32999, 33999, 34999, 36999, 37999, 38999, 39999, 40999, 41999, 42999] h h579 → (0 ≤ kz ∧ kz ≤ 64) → h579.2.2.2.2 m 50 = .int (zi cw) → h579.2.2.2.2 m 51 = .int (zi ch) → h579.2.2.2.2 m 52 = .int (zi iv) → h579.2.2.2.2 m 0 = .int (zi jn1v0) → h579.2.2.2.2 m 64 = .int (zi fq24_0) → h579.2.2.2.2 m 54 = .ref c373 → h579.2.2.2.2 m 55 = .ref c374 → h579.2.2.2.2 m 61 = .int (zi uv) → h579.2.2.2.2 m 62 = .int (zi bv) → h579.2.2.2.2 m 59 = .int (zi fq528_0) → h579.2.2.2.2 m 53 = .int (zi 0) → gRn 1024 ty 26 C h579 → gRn 256 ty 8 nb h579 → gRn 64 ty 10 (fun i9 => eZz ((i9 : Nat) : Int)) h579 → gRn 10 ty 27 tf h579 → gRn 10 ty 28 tt h579 → gRn 10 ty 29 th h579 → gRn 10 ty 30 tl h579 → (∀ j9 : Nat, j9 < n0.toNat → tf j9 = 0 → tt j9 = 0) → gRn 64 ty 34 (eTb nb qu) h579 → gRn (64 * fq24_0).toNat ty 33 (eCf C (eTb nb qu) cw ch (zup cw 8)) h579 → eeOk (eEx qu cw (eEn (eTb nb qu) n0 ch cw iv (eCf C (eTb nb qu) cw ch (zup cw 8)) (zup cw 8 * zup ch 8).toNat tf tt th tl) sg) → gSO ty (eEx qu cw (eEn (eTb nb qu) n0 ch cw iv (eCf C (eTb nb qu) cw ch (zup cw 8)) (zup cw 8 * zup ch 8).toNat tf tt th tl) sg) h579 → gOz ty 31 (-1) kz h579 → gz gPP gGG gcn (d + 6) gt183 362 [some (.ref m), some (.int (zi qu)), some (.int (zi jn19v0)), some (.int (zi kz)), none] [] h579 (fun q _ => gSs rT 1027 ty [1000, 1053, 1059, 1061, 1062, 1064, 1067, 1074, 1075, 31999, 32999, 33999, 34999, 36999, 37999, 38999, 39999, 40999, 41999, 42999] h q.2.2 ∧ ∃ z n1 w1 t1 : Int, gfin gt183 q.1 q.2.1 = some (some (.int (zi z))) ∧ 0 ≤ z ∧ z ≤ 60000 ∧ q.2.2.2.2.2.2 m 53 = .int (zi n1) ∧ 0 ≤ n1 ∧ n1 ≤ 10 ∧ q.2.2.2.2.2.2 m 59 = .int (zi w1) ∧ 0 ≤ w1 ∧ w1 ≤ 60000 ∧ q.2.2.2.2.2.2 m 0 = .int (zi t1) ∧ 0 ≤ t1 ∧ t1 ≤ 2 ∧ ((qu < 1 ∨ 100 < qu) → t1 = 1) ∧ ((1 ≤ qu ∧ qu ≤ 100 ∧ cw = 0) → t1 = 2) ∧ ((1 ≤ qu ∧ qu ≤ 100 ∧ ¬ cw = 0) → (t1 = 0 ∧ z = w1 ∧ n1 = 0)) ∧ (¬ (1 ≤ qu ∧ qu ≤ 100 ∧ ¬ cw = 0) → n1 = n0) ∧ (w1 = (eEx qu cw (eEn (eTb nb qu) n0 ch cw iv (eCf C (eTb nb qu) cw ch (zup cw 8)) (zup cw 8 * zup ch 8).toNat tf tt th tl) sg).1) ∧ (gTs ty n1 q.2.2) ∧ (gSO ty (eEx qu cw (eEn (eTb nb qu) n0 ch cw iv (eCf C (eTb nb qu) cw ch (zup cw 8)) (zup cw 8 * zup ch 8).toNat tf tt th tl) sg) q.2.2) ∧ (gRn 64 ty 31 (eCm qu cw cm) q.2.2)) := by
                                intro fu
                                induction fu with
                                | zero => intro h579 kz hm; exact absurd hm (Nat.not_lt_zero _)
                                | succ fu ihlp576 =>
                                  intro h579 kz lp576m sh579 lp576f0 lp576k0 lp576k1 lp576k2 lp576k3 lp576k4 lp576k5 lp576k6 lp576k7 lp576k8 lp576k9 lp576k10 lp576k11 lp576k12 lp576k13 lp576k14 lp576k15 lp576k16 lp576k17 lp576k18 lp576k19 lp576k20 lp576k21 lp576k22 lp576k23
                                  refine gz_s 2 (pc' := 365) (L' := [some (.ref m), some (.int (zi qu)), some (.int (zi jn19v0)), some (.int (zi kz)), none]) (S' := [.int (zi 64), .int (zi kz)]) rfl ?_
                                  by_cases hc580 : (64 : Int) ≤ kz
                                  · refine gy_icT (pc' := 381) rfl (by decide) (by decide) (by omega) (by omega) hc580 ?_
                                    have hoz9 : gOz ty 31 (-1) 64 h579 := by have e9 := lp576k23; rwa [(by omega : kz = 64)] at e9
                                    have hts : gTs ty 0 h579 := gTs.anew (gRow.mk uq tc373 (by decide) (fun _ => rfl)) (gRow.mk uq tc374 (by decide) (fun _ => rfl)) hoz9
                                    refine gz_s 1 (pc' := 382) (L' := [some (.ref m), some (.int (zi qu)), some (.int (zi jn19v0)), some (.int (zi kz)), none]) (S' := [.ref m]) rfl ?_
                                    refine gs_gtk rfl (by decide) rfl sh579.1 tm rfl rfl lp576k9 ?_
                                    have hrw581 : gRn 64 ty 31 (eCm qu cw cm) h579 := by
                                      rw [eCm_y hok]; exact gOz.Rn (by decide) hoz9
                                    exact gz_end (I := .ireturn) (len := 1) rfl (Or.inl rfl) ⟨sh579, fq528_0, 0, fq528_0, jn1v0, rfl, (by omega), (by omega), lp576k10, (by omega), (by omega), lp576k9, (by omega), (by omega), lp576k3, (by omega), (by omega), (by omega), (by omega), (by omega), (by omega), (by omega), hts, lp576k22, hrw581⟩
                                  · refine gy_icF rfl (by decide) (by decide) (by omega) (by omega) hc580 ?_
                                    obtain ⟨f9, rf9, z9⟩ := lp576k23
                                    refine gz_s 1 (pc' := 369) (L' := [some (.ref m), some (.int (zi qu)), some (.int (zi jn19v0)), some (.int (zi kz)), none]) (S' := [.ref m]) rfl ?_
                                    refine gs_gtr rfl (by decide) rfl sh579.1 tm rfl rfl rfl (fun c582 ec582 tc582 => ?_)
                                    refine gz_s 2 (pc' := 374) (L' := [some (.ref m), some (.int (zi qu)), some (.int (zi jn19v0)), some (.int (zi kz)), none]) (S' := [.int (zi (-1)), .int (zi kz), .ref c582]) rfl ?_
                                    have hl583 : 64 ≤ h579.2.2.2.1 c582 ∧ h579.2.2.2.1 c582 ≤ 64 := gJ.rowl (G := gGG) sh579.1 tc582 rfl
                                    refine gs_ast rfl (by decide) sh579 tc582 rfl rfl rfl (by decide) (fun _ => rfl) (by omega) (by omega) (fun _ => (by decide : (31999 : Nat) ∈ ([1000, 1053, 1059, 1061, 1062, 1064, 1067, 1074, 1075, 31999, 32999, 33999, 34999, 36999, 37999, 38999, 39999, 40999, 41999, 42999] : List Nat))) (by omega) (by omega) (fun h584 sh584 eh584 fh584 => ?_)
                                    have pr585 := gRn.pt fh584 tc582 (by decide) lp576k11
                                    have pr586 := gRn.pt fh584 tc582 (by decide) lp576k12
                                    have pr587 := gRn.pt fh584 tc582 (by decide) lp576k13
                                    have pr588 := gRn.pt fh584 tc582 (by decide) lp576k14
                                    have pr589 := gRn.pt fh584 tc582 (by decide) lp576k15
                                    have pr590 := gRn.pt fh584 tc582 (by decide) lp576k16
                                    have pr591 := gRn.pt fh584 tc582 (by decide) lp576k17
                                    have pr592 := gRn.pt fh584 tc582 (by decide) lp576k19
                                    have pr593 := gRn.pt fh584 tc582 (by decide) lp576k20
                                    have pr594 := gSO.pt fh584 tc582 (by decide) lp576k22
                                    have pr595 := gRow.put (i := kz) (z := (-1)) uq tc582 (by decide) fh584 eh584 (by omega) (by omega) rf9
                                    have s596 := (fh584 m 50 (fun q => absurd (((tm).symm.trans (congrArg ty q.1)).trans tc582) (by decide))).trans lp576k0
                                    have s597 := (fh584 m 51 (fun q => absurd (((tm).symm.trans (congrArg ty q.1)).trans tc582) (by decide))).trans lp576k1
                                    have s598 := (fh584 m 52 (fun q => absurd (((tm).symm.trans (congrArg ty q.1)).trans tc582) (by decide))).trans lp576k2
                                    have s599 := (fh584 m 0 (fun q => absurd (((tm).symm.trans (congrArg ty q.1)).trans tc582) (by decide))).trans lp576k3
                                    have s600 := (fh584 m 64 (fun q => absurd (((tm).symm.trans (congrArg ty q.1)).trans tc582) (by decide))).trans lp576k4
                                    have s601 := (fh584 m 54 (fun q => absurd (((tm).symm.trans (congrArg ty q.1)).trans tc582) (by decide))).trans lp576k5
                                    have s602 := (fh584 m 55 (fun q => absurd (((tm).symm.trans (congrArg ty q.1)).trans tc582) (by decide))).trans lp576k6
                                    have s603 := (fh584 m 61 (fun q => absurd (((tm).symm.trans (congrArg ty q.1)).trans tc582) (by decide))).trans lp576k7
                                    have s604 := (fh584 m 62 (fun q => absurd (((tm).symm.trans (congrArg ty q.1)).trans tc582) (by decide))).trans lp576k8
                                    have s605 := (fh584 m 59 (fun q => absurd (((tm).symm.trans (congrArg ty q.1)).trans tc582) (by decide))).trans lp576k9
                                    have s606 := (fh584 m 53 (fun q => absurd (((tm).symm.trans (congrArg ty q.1)).trans tc582) (by decide))).trans lp576k10
                                    have s607 := (fh584 m 58 (fun q => absurd (((tm).symm.trans (congrArg ty q.1)).trans tc582) (by decide))).trans ec582
                                    have pr608 := gEl.set (i := kz) (z := (-1)) uq tc582 (by decide) eh584 (by omega) (by omega)
                                    have hoz609 : gOz ty 31 (-1) (kz + 1) h584 := gOz.step (by omega) pr595 z9
                                    refine gy_s 2 (pc' := 362) (L' := [some (.ref m), some (.int (zi qu)), some (.int (zi jn19v0)), some (.int ((zi kz) + zi 1)), none]) (S' := []) (L2 := [some (.ref m), some (.int (zi qu)), some (.int (zi jn19v0)), some (.int (zi (kz + 1))), none]) (S2 := []) rfl (by simp only [zi_add, zi_sub, zi_mul, zi_neg, zi_and1, zi_and7, zi_and15, zi_and31, zi_and255]) (by simp only [zi_add, zi_sub, zi_mul, zi_neg, zi_and1, zi_and7, zi_and15, zi_and31, zi_and255]) ?_
                                    exact gz_wk (ihlp576 h584 (kz + 1) (by omega) sh584 (by omega) s596 s597 s598 s599 s600 s601 s602 s603 s604 s605 s606 pr585 pr586 pr587 pr588 pr589 pr590 pr591 lp576k18 pr592 pr593 lp576k21 pr594 hoz609) (gLw.s (gLw.s (gLw.s (gLw.s (gLw.n gLw.z)))))
                              exact gz_wk (lp576 _ h553 0 (Nat.lt_succ_self _) sh553 (by omega) s566 s567 s568 s569 s570 s571 s572 s573 s574 s575 eh553 pr555 pr556 pr557 pr558 pr559 pr560 pr561 lp526k20 pr563 pr564 hok552 pr565 hoz578) (gLw.s (gLw.s (gLw.s (gLw.s (gLw.n gLw.z)))))
                          have hl9 : gTl tf tt 0 = 0 := rfl
                          exact gz_wk (lp526 _ hq503 0 fq503_0 fq503_1 fq503_2 (Nat.lt_succ_self _) sq503 (by omega) (by omega) (by omega) (by omega) (by omega) (by omega) (by omega) (by omega) (by omega) (by omega) s504 s505 s506 s507 s508 s509 s510 s511 efq503_0 efq503_1 efq503_2 pr512 pr513 pr514 pr515 pr516 pr517 pr518 pr519 pr520 lp179k18 pr521 pr522 hso524 hok525) (gLw.s (gLw.s (gLw.s (gLw.s (gLw.n gLw.z)))))
                      · refine gy_ifF rfl (by decide) (by decide) (by omega) hc369 ?_
                        refine gz_s 2 (pc' := 272) (L' := [some (.ref m), some (.int (zi qu)), some (.int (zi jn19v0)), some (.int (zi k1)), none]) (S' := [.int (zi 221), .ref m]) rfl ?_
                        refine gz_call rfl (by decide) rfl (by decide) (by decide) (gcal_of rfl rfl rfl (Nat.le_of_ble_eq_true rfl) (gJ.recv (G := gGG) sq349.1 tm rfl rfl)) (mw_putMarker _ sq349.1 m tm 221 (by omega) fq349_0 efq349_0 (by omega) (eeB (eeB (eeB (eeB (eeT (eeT (eeB (eeT (eeM (eHt (eTb nb qu) (eeB (eeT (eeM (eeM ((0, 0, 0, fun _ => 0) : gWt) 216) 219) 67) 0) 64) jn188v0) 11) 8) ch) cw) 1) 1) 17) 0) (by omega) uq yq349_0 yq349_1) (fun q610 _ wq610 => ?_)
                        obtain ⟨pq610, oq610, hq610⟩ := q610
                        obtain ⟨xq610, fq610_0, gq610, efq610_0, afq610_0, bfq610_0, uq610_0, uq610_1, uq610_2, uq610_3, yq610_0, yq610_1⟩ := wq610
                        refine ⟨_, gq610, ?_⟩
                        show gz gPP gGG gcn _ _ 275 [some (.ref m), some (.int (zi qu)), some (.int (zi jn19v0)), some (.int (zi k1)), none] [] hq610 _
                        have sq610 := gSs.tr sq349 xq610 (by decide)
                        have s611 := (xq610.2.2.2.2.2 m 53 (by rw [tm]; decide)).trans s350
                        have s612 := (xq610.2.2.2.2.2 m 50 (by rw [tm]; decide)).trans s351
                        have s613 := (xq610.2.2.2.2.2 m 51 (by rw [tm]; decide)).trans s352
                        have s614 := (xq610.2.2.2.2.2 m 52 (by rw [tm]; decide)).trans s353
                        have s615 := (xq610.2.2.2.2.2 m 0 (by rw [tm]; decide)).trans s354
                        have s616 := (xq610.2.2.2.2.2 m 64 (by rw [tm]; decide)).trans s355
                        have s617 := (xq610.2.2.2.2.2 m 61 (by rw [tm]; decide)).trans s356
                        have s618 := (xq610.2.2.2.2.2 m 62 (by rw [tm]; decide)).trans s357
                        have pr619 := gTs.fr xq610.2 (by decide) pr358
                        have pr620 := gRn.fr xq610.2 (by decide) pr359
                        have pr621 := gRn.fr xq610.2 (by decide) pr360
                        have pr622 := gRn.fr xq610.2 (by decide) pr361
                        have pr623 := gRn.fr xq610.2 (by decide) pr362
                        have pr624 := gRn.fr xq610.2 (by decide) pr363
                        have pr625 := gRn.fr xq610.2 (by decide) pr364
                        have pr626 := gRn.fr xq610.2 (by decide) pr365
                        have pr627 := gRn.fr xq610.2 (by decide) pr366
                        have pr628 := gRn.fr xq610.2 (by decide) pr367
                        have pr629 := gRn.fr xq610.2 (by decide) pr368
                        refine gz_s 2 (pc' := 277) (L' := [some (.ref m), some (.int (zi qu)), some (.int (zi jn19v0)), some (.int (zi k1)), none]) (S' := [.int (zi 4), .ref m]) rfl ?_
                        refine gz_call rfl (by decide) rfl (by decide) (by decide) (gcal_of rfl rfl rfl (Nat.le_of_ble_eq_true rfl) (gJ.recv (G := gGG) sq610.1 tm rfl rfl)) (mw_putTwo _ sq610.1 m tm 4 (by omega) fq610_0 efq610_0 (by omega) (eeM (eeB (eeB (eeB (eeB (eeT (eeT (eeB (eeT (eeM (eHt (eTb nb qu) (eeB (eeT (eeM (eeM ((0, 0, 0, fun _ => 0) : gWt) 216) 219) 67) 0) 64) jn188v0) 11) 8) ch) cw) 1) 1) 17) 0) 221) (by omega) uq yq610_0 yq610_1) (fun q630 _ wq630 => ?_)
                        obtain ⟨pq630, oq630, hq630⟩ := q630
                        obtain ⟨xq630, fq630_0, gq630, efq630_0, afq630_0, bfq630_0, uq630_0, uq630_1, uq630_2, uq630_3, yq630_0, yq630_1⟩ := wq630
                        refine ⟨_, gq630, ?_⟩
                        show gz gPP gGG gcn _ _ 280 [some (.ref m), some (.int (zi qu)), some (.int (zi jn19v0)), some (.int (zi k1)), none] [] hq630 _
                        have sq630 := gSs.tr sq610 xq630 (by decide)
                        have s631 := (xq630.2.2.2.2.2 m 53 (by rw [tm]; decide)).trans s611
                        have s632 := (xq630.2.2.2.2.2 m 50 (by rw [tm]; decide)).trans s612
                        have s633 := (xq630.2.2.2.2.2 m 51 (by rw [tm]; decide)).trans s613
                        have s634 := (xq630.2.2.2.2.2 m 52 (by rw [tm]; decide)).trans s614
                        have s635 := (xq630.2.2.2.2.2 m 0 (by rw [tm]; decide)).trans s615
                        have s636 := (xq630.2.2.2.2.2 m 64 (by rw [tm]; decide)).trans s616
                        have s637 := (xq630.2.2.2.2.2 m 61 (by rw [tm]; decide)).trans s617
                        have s638 := (xq630.2.2.2.2.2 m 62 (by rw [tm]; decide)).trans s618
                        have pr639 := gTs.fr xq630.2 (by decide) pr619
                        have pr640 := gRn.fr xq630.2 (by decide) pr620
                        have pr641 := gRn.fr xq630.2 (by decide) pr621
                        have pr642 := gRn.fr xq630.2 (by decide) pr622
                        have pr643 := gRn.fr xq630.2 (by decide) pr623
                        have pr644 := gRn.fr xq630.2 (by decide) pr624
                        have pr645 := gRn.fr xq630.2 (by decide) pr625
                        have pr646 := gRn.fr xq630.2 (by decide) pr626
                        have pr647 := gRn.fr xq630.2 (by decide) pr627
                        have pr648 := gRn.fr xq630.2 (by decide) pr628
                        have pr649 := gRn.fr xq630.2 (by decide) pr629
                        refine gz_s 2 (pc' := 282) (L' := [some (.ref m), some (.int (zi qu)), some (.int (zi jn19v0)), some (.int (zi k1)), none]) (S' := [.ref m, .ref m]) rfl ?_
                        refine gs_gtk rfl (by decide) rfl sq630.1 tm rfl rfl s634 ?_
                        refine gz_call rfl (by decide) rfl (by decide) (by decide) (gcal_of rfl rfl rfl (Nat.le_of_ble_eq_true rfl) (gJ.recv (G := gGG) sq630.1 tm rfl rfl)) (mw_putTwo _ sq630.1 m tm iv (by omega) fq630_0 efq630_0 (by omega) (eeT (eeM (eeB (eeB (eeB (eeB (eeT (eeT (eeB (eeT (eeM (eHt (eTb nb qu) (eeB (eeT (eeM (eeM ((0, 0, 0, fun _ => 0) : gWt) 216) 219) 67) 0) 64) jn188v0) 11) 8) ch) cw) 1) 1) 17) 0) 221) 4) (by omega) uq yq630_0 yq630_1) (fun q650 _ wq650 => ?_)
                        obtain ⟨pq650, oq650, hq650⟩ := q650
                        obtain ⟨xq650, fq650_0, gq650, efq650_0, afq650_0, bfq650_0, uq650_0, uq650_1, uq650_2, uq650_3, yq650_0, yq650_1⟩ := wq650
                        refine ⟨_, gq650, ?_⟩
                        show gz gPP gGG gcn _ _ 288 [some (.ref m), some (.int (zi qu)), some (.int (zi jn19v0)), some (.int (zi k1)), none] [] hq650 _
                        have sq650 := gSs.tr sq630 xq650 (by decide)
                        have s651 := (xq650.2.2.2.2.2 m 53 (by rw [tm]; decide)).trans s631
                        have s652 := (xq650.2.2.2.2.2 m 50 (by rw [tm]; decide)).trans s632
                        have s653 := (xq650.2.2.2.2.2 m 51 (by rw [tm]; decide)).trans s633
                        have s654 := (xq650.2.2.2.2.2 m 52 (by rw [tm]; decide)).trans s634
                        have s655 := (xq650.2.2.2.2.2 m 0 (by rw [tm]; decide)).trans s635
                        have s656 := (xq650.2.2.2.2.2 m 64 (by rw [tm]; decide)).trans s636
                        have s657 := (xq650.2.2.2.2.2 m 61 (by rw [tm]; decide)).trans s637
                        have s658 := (xq650.2.2.2.2.2 m 62 (by rw [tm]; decide)).trans s638
                        have pr659 := gTs.fr xq650.2 (by decide) pr639
                        have pr660 := gRn.fr xq650.2 (by decide) pr640
                        have pr661 := gRn.fr xq650.2 (by decide) pr641
                        have pr662 := gRn.fr xq650.2 (by decide) pr642
                        have pr663 := gRn.fr xq650.2 (by decide) pr643
                        have pr664 := gRn.fr xq650.2 (by decide) pr644
                        have pr665 := gRn.fr xq650.2 (by decide) pr645
                        have pr666 := gRn.fr xq650.2 (by decide) pr646
                        have pr667 := gRn.fr xq650.2 (by decide) pr647
                        have pr668 := gRn.fr xq650.2 (by decide) pr648
                        have pr669 := gRn.fr xq650.2 (by decide) pr649
                        have hk670 : eHd (eTb nb qu) n0 ch cw iv = eeT (eeT (eeM (eeB (eeB (eeB (eeB (eeT (eeT (eeB (eeT (eeM (eHt (eTb nb qu) (eeB (eeT (eeM (eeM ((0, 0, 0, fun _ => 0) : gWt) 216) 219) 67) 0) 64) jn188v0) 11) 8) ch) cw) 1) 1) 17) 0) 221) 4) iv := by unfold eHd; dsimp only; rw [if_pos (show 0 < iv by omega), hmk]
                        have hk670_1 : (eHd (eTb nb qu) n0 ch cw iv).1 = (eeT (eeT (eeM (eeB (eeB (eeB (eeB (eeT (eeT (eeB (eeT (eeM (eHt (eTb nb qu) (eeB (eeT (eeM (eeM ((0, 0, 0, fun _ => 0) : gWt) 216) 219) 67) 0) 64) jn188v0) 11) 8) ch) cw) 1) 1) 17) 0) 221) 4) iv).1 := by rw [hk670]
                        have hk670_21 : (eHd (eTb nb qu) n0 ch cw iv).2.1 = (eeT (eeT (eeM (eeB (eeB (eeB (eeB (eeT (eeT (eeB (eeT (eeM (eHt (eTb nb qu) (eeB (eeT (eeM (eeM ((0, 0, 0, fun _ => 0) : gWt) 216) 219) 67) 0) 64) jn188v0) 11) 8) ch) cw) 1) 1) 17) 0) 221) 4) iv).2.1 := by rw [hk670]
                        have hk670_221 : (eHd (eTb nb qu) n0 ch cw iv).2.2.1 = (eeT (eeT (eeM (eeB (eeB (eeB (eeB (eeT (eeT (eeB (eeT (eeM (eHt (eTb nb qu) (eeB (eeT (eeM (eeM ((0, 0, 0, fun _ => 0) : gWt) 216) 219) 67) 0) 64) jn188v0) 11) 8) ch) cw) 1) 1) 17) 0) 221) 4) iv).2.2.1 := by rw [hk670]
                        have hso671 : gSO ty (eHd (eTb nb qu) n0 ch cw iv) hq650 := by rw [hk670]; exact yq650_0
                        have hok672 : eeOk (eHd (eTb nb qu) n0 ch cw iv) := by rw [hk670]; exact yq650_1
                        have hok672c := hok672.cur
                        obtain ⟨c673, ec673, tc673⟩ := gJ.ref (k := 54) (G := gGG) sq650.1 tm rfl rfl rfl
                        obtain ⟨c674, ec674, tc674⟩ := gJ.ref (k := 55) (G := gGG) sq650.1 tm rfl rfl rfl
                        obtain ⟨tle, tsm⟩ := gTs.fn pr659 pr663 pr664 tc673 tc674 (by omega)
                        have hhd : ((eHd (eTb nb qu) n0 ch cw iv)).2.2.1 = 0 := by omega
                        refine gz_s 1 (pc' := 289) (L' := [some (.ref m), some (.int (zi qu)), some (.int (zi jn19v0)), some (.int (zi k1)), none]) (S' := [.ref m]) rfl ?_
                        refine gs_gtk rfl (by decide) rfl sq650.1 tm rfl rfl s651 ?_
                        by_cases hc675 : ¬ (n0 : Int) = 0
                        · refine gy_ifT (pc' := 304) rfl (by decide) (by decide) (by omega) hc675 ?_
                          have hk676 : eEk n0 iv (eCf C (eTb nb qu) cw ch (zup cw 8)) (zup cw 8 * zup ch 8).toNat tf tt th tl (eHd (eTb nb qu) n0 ch cw iv) 0 = eHd (eTb nb qu) n0 ch cw iv := eEk_0 (by omega)
                          have hk676_1 : (eEk n0 iv (eCf C (eTb nb qu) cw ch (zup cw 8)) (zup cw 8 * zup ch 8).toNat tf tt th tl (eHd (eTb nb qu) n0 ch cw iv) 0).1 = (eHd (eTb nb qu) n0 ch cw iv).1 := by rw [hk676]
                          have hk676_21 : (eEk n0 iv (eCf C (eTb nb qu) cw ch (zup cw 8)) (zup cw 8 * zup ch 8).toNat tf tt th tl (eHd (eTb nb qu) n0 ch cw iv) 0).2.1 = (eHd (eTb nb qu) n0 ch cw iv).2.1 := by rw [hk676]
                          have hk676_221 : (eEk n0 iv (eCf C (eTb nb qu) cw ch (zup cw 8)) (zup cw 8 * zup ch 8).toNat tf tt th tl (eHd (eTb nb qu) n0 ch cw iv) 0).2.2.1 = (eHd (eTb nb qu) n0 ch cw iv).2.2.1 := by rw [hk676]
                          have hso677 : gSO ty (eEk n0 iv (eCf C (eTb nb qu) cw ch (zup cw 8)) (zup cw 8 * zup ch 8).toNat tf tt th tl (eHd (eTb nb qu) n0 ch cw iv) 0) hq650 := by rw [hk676]; exact hso671
                          have hok678 : eeOk (eEk n0 iv (eCf C (eTb nb qu) cw ch (zup cw 8)) (zup cw 8 * zup ch 8).toNat tf tt th tl (eHd (eTb nb qu) n0 ch cw iv) 0) := by rw [hk676]; exact hok672
                          have hok678c := hok678.cur
                          refine gz_s 2 (pc' := 306) (L' := [some (.ref m), some (.int (zi qu)), some (.int (zi jn19v0)), some (.int (zi 0)), none]) (S' := []) rfl ?_
                          have lp679 : ∀ (fu : Nat) (h680 : gH) (k3 : Int) (wv : Int) (uv : Int) (bv : Int), (11 - k3).toNat < fu → gSs rT 1027 ty [1000, 1053, 1059, 1061, 1062, 1064, 1067, 1074, 1075, 31999, 32999, 33999, 34999, 36999, 37999, 38999, 39999, 40999, 41999, 42999] h h680 → (0 ≤ k3 ∧ k3 ≤ 10) → (0 ≤ wv ∧ wv ≤ 60000) → (0 ≤ uv ∧ uv ≤ 127) → (0 ≤ bv ∧ bv ≤ 0) → (n0 = 0 ∨ (4 * wv ≤ 1000 + 560 * gTl tf tt k3 + 3468 * k3)) → (n0 = 0 → (k3 = 0 ∧ wv ≤ 45000)) → (k3 ≤ n0) → (wv = (eEk n0 iv (eCf C (eTb nb qu) cw ch (zup cw 8)) (zup cw 8 * zup ch 8).toNat tf tt th tl (eHd (eTb nb qu) n0 ch cw iv) k3).1) → (uv = (eEk n0 iv (eCf C (eTb nb qu) cw ch (zup cw 8)) (zup cw 8 * zup ch 8).toNat tf tt th tl (eHd (eTb nb qu) n0 ch cw iv) k3).2.1) → (bv = (eEk n0 iv (eCf C (eTb nb qu) cw ch (zup cw 8)) (zup cw 8 * zup ch 8).toNat tf tt th tl (eHd (eTb nb qu) n0 ch cw iv) k3).2.2.1) → h680.2.2.2.2 m 53 = .int (zi n0) → h680.2.2.2.2 m 50 = .int (zi cw) → h680.2.2.2.2 m 51 = .int (zi ch) → h680.2.2.2.2 m 52 = .int (zi iv) → h680.2.2.2.2 m 0 = .int (zi jn1v0) → h680.2.2.2.2 m 64 = .int (zi fq24_0) → h680.2.2.2.2 m 54 = .ref c673 → h680.2.2.2.2 m 55 = .ref c674 → h680.2.2.2.2 m 59 = .int (zi wv) → h680.2.2.2.2 m 61 = .int (zi uv) → h680.2.2.2.2 m 62 = .int (zi bv) → gTs ty n0 h680 → gRn 1024 ty 26 C h680 → gRn 256 ty 8 nb h680 → gRn 64 ty 10 (fun i9 => eZz ((i9 : Nat) : Int)) h680 → gRn 10 ty 27 tf h680 → gRn 10 ty 28 tt h680 → gRn 10 ty 29 th h680 → gRn 10 ty 30 tl h680 → gRn 64 ty 31 cm h680 → (∀ j9 : Nat, j9 < n0.toNat → tf j9 = 0 → tt j9 = 0) → gRn 64 ty 34 (eTb nb qu) h680 → gRn (64 * fq24_0).toNat ty 33 (eCf C (eTb nb qu) cw ch (zup cw 8)) h680 → gSO ty (eEk n0 iv (eCf C (eTb nb qu) cw ch (zup cw 8)) (zup cw 8 * zup ch 8).toNat tf tt th tl (eHd (eTb nb qu) n0 ch cw iv) k3) h680 → eeOk (eEk n0 iv (eCf C (eTb nb qu) cw ch (zup cw 8)) (zup cw 8 * zup ch 8).toNat tf tt th tl (eHd (eTb nb qu) n0 ch cw iv) k3) → gz gPP gGG gcn (d + 6) gt183 306 [some (.ref m), some (.int (zi qu)), some (.int (zi jn19v0)), some (.int (zi k3)), none] [] h680 (fun q _ => gSs rT 1027 ty [1000, 1053, 1059, 1061, 1062, 1064, 1067, 1074, 1075, 31999, 32999, 33999, 34999, 36999, 37999, 38999, 39999, 40999, 41999, 42999] h q.2.2 ∧ ∃ z n1 w1 t1 : Int, gfin gt183 q.1 q.2.1 = some (some (.int (zi z))) ∧ 0 ≤ z ∧ z ≤ 60000 ∧ q.2.2.2.2.2.2 m 53 = .int (zi n1) ∧ 0 ≤ n1 ∧ n1 ≤ 10 ∧ q.2.2.2.2.2.2 m 59 = .int (zi w1) ∧ 0 ≤ w1 ∧ w1 ≤ 60000 ∧ q.2.2.2.2.2.2 m 0 = .int (zi t1) ∧ 0 ≤ t1 ∧ t1 ≤ 2 ∧ ((qu < 1 ∨ 100 < qu) → t1 = 1) ∧ ((1 ≤ qu ∧ qu ≤ 100 ∧ cw = 0) → t1 = 2) ∧ ((1 ≤ qu ∧ qu ≤ 100 ∧ ¬ cw = 0) → (t1 = 0 ∧ z = w1 ∧ n1 = 0)) ∧ (¬ (1 ≤ qu ∧ qu ≤ 100 ∧ ¬ cw = 0) → n1 = n0) ∧ (w1 = (eEx qu cw (eEn (eTb nb qu) n0 ch cw iv (eCf C (eTb nb qu) cw ch (zup cw 8)) (zup cw 8 * zup ch 8).toNat tf tt th tl) sg).1) ∧ (gTs ty n1 q.2.2) ∧ (gSO ty (eEx qu cw (eEn (eTb nb qu) n0 ch cw iv (eCf C (eTb nb qu) cw ch (zup cw 8)) (zup cw 8 * zup ch 8).toNat tf tt th tl) sg) q.2.2) ∧ (gRn 64 ty 31 (eCm qu cw cm) q.2.2)) := by
                            intro fu
                            induction fu with
                            | zero => intro h680 k3 wv uv bv hm; exact absurd hm (Nat.not_lt_zero _)
                            | succ fu ihlp679 =>
                              intro h680 k3 wv uv bv lp679m sh680 lp679f0 lp679f1 lp679f2 lp679f3 lp679f4 lp679f5 lp679f6 lp679f7 lp679f8 lp679f9 lp679k0 lp679k1 lp679k2 lp679k3 lp679k4 lp679k5 lp679k6 lp679k7 lp679k8 lp679k9 lp679k10 lp679k11 lp679k12 lp679k13 lp679k14 lp679k15 lp679k16 lp679k17 lp679k18 lp679k19 lp679k20 lp679k21 lp679k22 lp679k23 lp679k24
                              have hl0 := gTl_le (f := tf) (t := tt) (k := k3) (n := n0) tle
                              refine gz_s 2 (pc' := 308) (L' := [some (.ref m), some (.int (zi qu)), some (.int (zi jn19v0)), some (.int (zi k3)), none]) (S' := [.ref m, .int (zi k3)]) rfl ?_
                              refine gs_gtk rfl (by decide) rfl sh680.1 tm rfl rfl lp679k0 ?_
                              by_cases hc681 : (n0 : Int) ≤ k3
                              · refine gy_icT (pc' := 348) rfl (by decide) (by decide) (by omega) (by omega) hc681 ?_
                                refine gz_s 2 (pc' := 352) (L' := [some (.ref m), some (.int (zi qu)), some (.int (zi jn19v0)), some (.int (zi k3)), none]) (S' := [.int (zi 217), .ref m]) rfl ?_
                                refine gz_call rfl (by decide) rfl (by decide) (by decide) (gcal_of rfl rfl rfl (Nat.le_of_ble_eq_true rfl) (gJ.recv (G := gGG) sh680.1 tm rfl rfl)) (mw_putMarker _ sh680.1 m tm 217 (by omega) wv lp679k8 (by omega) (eEk n0 iv (eCf C (eTb nb qu) cw ch (zup cw 8)) (zup cw 8 * zup ch 8).toNat tf tt th tl (eHd (eTb nb qu) n0 ch cw iv) k3) (by omega) uq lp679k23 lp679k24) (fun q682 _ wq682 => ?_)
                                obtain ⟨pq682, oq682, hq682⟩ := q682
                                obtain ⟨xq682, fq682_0, gq682, efq682_0, afq682_0, bfq682_0, uq682_0, uq682_1, uq682_2, uq682_3, yq682_0, yq682_1⟩ := wq682
                                refine ⟨_, gq682, ?_⟩
                                show gz gPP gGG gcn _ _ 355 [some (.ref m), some (.int (zi qu)), some (.int (zi jn19v0)), some (.int (zi k3)), none] [] hq682 _
                                have sq682 := gSs.tr sh680 xq682 (by decide)
                                have s683 := (xq682.2.2.2.2.2 m 53 (by rw [tm]; decide)).trans lp679k0
                                have s684 := (xq682.2.2.2.2.2 m 50 (by rw [tm]; decide)).trans lp679k1
                                have s685 := (xq682.2.2.2.2.2 m 51 (by rw [tm]; decide)).trans lp679k2
                                have s686 := (xq682.2.2.2.2.2 m 52 (by rw [tm]; decide)).trans lp679k3
                                have s687 := (xq682.2.2.2.2.2 m 0 (by rw [tm]; decide)).trans lp679k4
                                have s688 := (xq682.2.2.2.2.2 m 64 (by rw [tm]; decide)).trans lp679k5
                                have s689 := (xq682.2.2.2.2.2 m 54 (by rw [tm]; decide)).trans lp679k6
                                have s690 := (xq682.2.2.2.2.2 m 55 (by rw [tm]; decide)).trans lp679k7
                                have s691 := (xq682.2.2.2.2.2 m 61 (by rw [tm]; decide)).trans lp679k9
                                have s692 := (xq682.2.2.2.2.2 m 62 (by rw [tm]; decide)).trans lp679k10
                                have pr693 := gTs.fr xq682.2 (by decide) lp679k11
                                have pr694 := gRn.fr xq682.2 (by decide) lp679k12
                                have pr695 := gRn.fr xq682.2 (by decide) lp679k13
                                have pr696 := gRn.fr xq682.2 (by decide) lp679k14
                                have pr697 := gRn.fr xq682.2 (by decide) lp679k15
                                have pr698 := gRn.fr xq682.2 (by decide) lp679k16
                                have pr699 := gRn.fr xq682.2 (by decide) lp679k17
                                have pr700 := gRn.fr xq682.2 (by decide) lp679k18
                                have pr701 := gRn.fr xq682.2 (by decide) lp679k19
                                have pr702 := gRn.fr xq682.2 (by decide) lp679k21
                                have pr703 := gRn.fr xq682.2 (by decide) lp679k22
                                have hk704 : eEx qu cw (eEn (eTb nb qu) n0 ch cw iv (eCf C (eTb nb qu) cw ch (zup cw 8)) (zup cw 8 * zup ch 8).toNat tf tt th tl) sg = eeM (eEk n0 iv (eCf C (eTb nb qu) cw ch (zup cw 8)) (zup cw 8 * zup ch 8).toNat tf tt th tl (eHd (eTb nb qu) n0 ch cw iv) k3) 217 := by rw [eEx_y hok]; exact eEk_e (by omega)
                                have hk704_1 : (eEx qu cw (eEn (eTb nb qu) n0 ch cw iv (eCf C (eTb nb qu) cw ch (zup cw 8)) (zup cw 8 * zup ch 8).toNat tf tt th tl) sg).1 = (eeM (eEk n0 iv (eCf C (eTb nb qu) cw ch (zup cw 8)) (zup cw 8 * zup ch 8).toNat tf tt th tl (eHd (eTb nb qu) n0 ch cw iv) k3) 217).1 := by rw [hk704]
                                have hk704_21 : (eEx qu cw (eEn (eTb nb qu) n0 ch cw iv (eCf C (eTb nb qu) cw ch (zup cw 8)) (zup cw 8 * zup ch 8).toNat tf tt th tl) sg).2.1 = (eeM (eEk n0 iv (eCf C (eTb nb qu) cw ch (zup cw 8)) (zup cw 8 * zup ch 8).toNat tf tt th tl (eHd (eTb nb qu) n0 ch cw iv) k3) 217).2.1 := by rw [hk704]
                                have hk704_221 : (eEx qu cw (eEn (eTb nb qu) n0 ch cw iv (eCf C (eTb nb qu) cw ch (zup cw 8)) (zup cw 8 * zup ch 8).toNat tf tt th tl) sg).2.2.1 = (eeM (eEk n0 iv (eCf C (eTb nb qu) cw ch (zup cw 8)) (zup cw 8 * zup ch 8).toNat tf tt th tl (eHd (eTb nb qu) n0 ch cw iv) k3) 217).2.2.1 := by rw [hk704]
                                have hso705 : gSO ty (eEx qu cw (eEn (eTb nb qu) n0 ch cw iv (eCf C (eTb nb qu) cw ch (zup cw 8)) (zup cw 8 * zup ch 8).toNat tf tt th tl) sg) hq682 := by rw [hk704]; exact yq682_0
                                have hok706 : eeOk (eEx qu cw (eEn (eTb nb qu) n0 ch cw iv (eCf C (eTb nb qu) cw ch (zup cw 8)) (zup cw 8 * zup ch 8).toNat tf tt th tl) sg) := by rw [hk704]; exact yq682_1
                                have hok706c := hok706.cur
                                have hex : eEx qu cw (eEn (eTb nb qu) n0 ch cw iv (eCf C (eTb nb qu) cw ch (zup cw 8)) (zup cw 8 * zup ch 8).toNat tf tt th tl) sg = (eEn (eTb nb qu) n0 ch cw iv (eCf C (eTb nb qu) cw ch (zup cw 8)) (zup cw 8 * zup ch 8).toNat tf tt th tl) := eEx_y hok
                                refine gz_s 2 (pc' := 357) (L' := [some (.ref m), some (.int (zi qu)), some (.int (zi jn19v0)), some (.int (zi k3)), none]) (S' := [.int (zi 0), .ref m]) rfl ?_
                                refine gs_put rfl (by decide) rfl sq682 tm rfl rfl rfl rfl (Or.inl rfl) (by decide) (by omega) (by omega) (fun h707 sh707 eh707 fh707 => ?_)
                                have pr708 := gTs.pt fh707 tm (by decide) pr693
                                have pr709 := gRn.pt fh707 tm (by decide) pr694
                                have pr710 := gRn.pt fh707 tm (by decide) pr695
                                have pr711 := gRn.pt fh707 tm (by decide) pr696
                                have pr712 := gRn.pt fh707 tm (by decide) pr697
                                have pr713 := gRn.pt fh707 tm (by decide) pr698
                                have pr714 := gRn.pt fh707 tm (by decide) pr699
                                have pr715 := gRn.pt fh707 tm (by decide) pr700
                                have pr716 := gRn.pt fh707 tm (by decide) pr701
                                have pr717 := gRn.pt fh707 tm (by decide) pr702
                                have pr718 := gRn.pt fh707 tm (by decide) pr703
                                have pr719 := gSO.pt fh707 tm (by decide) hso705
                                have s720 := (fh707 m 50 (fun q => absurd q.2 (by decide))).trans s684
                                have s721 := (fh707 m 51 (fun q => absurd q.2 (by decide))).trans s685
                                have s722 := (fh707 m 52 (fun q => absurd q.2 (by decide))).trans s686
                                have s723 := (fh707 m 0 (fun q => absurd q.2 (by decide))).trans s687
                                have s724 := (fh707 m 64 (fun q => absurd q.2 (by decide))).trans s688
                                have s725 := (fh707 m 54 (fun q => absurd q.2 (by decide))).trans s689
                                have s726 := (fh707 m 55 (fun q => absurd q.2 (by decide))).trans s690
                                have s727 := (fh707 m 61 (fun q => absurd q.2 (by decide))).trans s691
                                have s728 := (fh707 m 62 (fun q => absurd q.2 (by decide))).trans s692
                                have s729 := (fh707 m 59 (fun q => absurd q.2 (by decide))).trans efq682_0
                                refine gz_s 2 (pc' := 362) (L' := [some (.ref m), some (.int (zi qu)), some (.int (zi jn19v0)), some (.int (zi 0)), none]) (S' := []) rfl ?_
                                obtain ⟨c731, ec731, tc731⟩ := gJ.ref (k := 58) (G := gGG) sh707.1 tm rfl rfl rfl
                                have hoz732 : gOz ty 31 (-1) 0 h707 := ⟨_, gRow.mk uq tc731 (by decide) (fun _ => rfl), fun j hj => absurd hj (by omega)⟩
                                have lp730 : ∀ (fu : Nat) (h733 : gH) (kz : Int), (65 - kz).toNat < fu → gSs rT 1027 ty [1000, 1053, 1059, 1061, 1062, 1064, 1067, 1074, 1075, 31999, 32999, 33999, 34999, 36999, 37999, 38999, 39999, 40999, 41999, 42999] h h733 → (0 ≤ kz ∧ kz ≤ 64) → h733.2.2.2.2 m 50 = .int (zi cw) → h733.2.2.2.2 m 51 = .int (zi ch) → h733.2.2.2.2 m 52 = .int (zi iv) → h733.2.2.2.2 m 0 = .int (zi jn1v0) → h733.2.2.2.2 m 64 = .int (zi fq24_0) → h733.2.2.2.2 m 54 = .ref c673 → h733.2.2.2.2 m 55 = .ref c674 → h733.2.2.2.2 m 61 = .int (zi uv) → h733.2.2.2.2 m 62 = .int (zi bv) → h733.2.2.2.2 m 59 = .int (zi fq682_0) → h733.2.2.2.2 m 53 = .int (zi 0) → gRn 1024 ty 26 C h733 → gRn 256 ty 8 nb h733 → gRn 64 ty 10 (fun i9 => eZz ((i9 : Nat) : Int)) h733 → gRn 10 ty 27 tf h733 → gRn 10 ty 28 tt h733 → gRn 10 ty 29 th h733 → gRn 10 ty 30 tl h733 → (∀ j9 : Nat, j9 < n0.toNat → tf j9 = 0 → tt j9 = 0) → gRn 64 ty 34 (eTb nb qu) h733 → gRn (64 * fq24_0).toNat ty 33 (eCf C (eTb nb qu) cw ch (zup cw 8)) h733 → eeOk (eEx qu cw (eEn (eTb nb qu) n0 ch cw iv (eCf C (eTb nb qu) cw ch (zup cw 8)) (zup cw 8 * zup ch 8).toNat tf tt th tl) sg) → gSO ty (eEx qu cw (eEn (eTb nb qu) n0 ch cw iv (eCf C (eTb nb qu) cw ch (zup cw 8)) (zup cw 8 * zup ch 8).toNat tf tt th tl) sg) h733 → gOz ty 31 (-1) kz h733 → gz gPP gGG gcn (d + 6) gt183 362 [some (.ref m), some (.int (zi qu)), some (.int (zi jn19v0)), some (.int (zi kz)), none] [] h733 (fun q _ => gSs rT 1027 ty [1000, 1053, 1059, 1061, 1062, 1064, 1067, 1074, 1075, 31999, 32999, 33999, 34999, 36999, 37999, 38999, 39999, 40999, 41999, 42999] h q.2.2 ∧ ∃ z n1 w1 t1 : Int, gfin gt183 q.1 q.2.1 = some (some (.int (zi z))) ∧ 0 ≤ z ∧ z ≤ 60000 ∧ q.2.2.2.2.2.2 m 53 = .int (zi n1) ∧ 0 ≤ n1 ∧ n1 ≤ 10 ∧ q.2.2.2.2.2.2 m 59 = .int (zi w1) ∧ 0 ≤ w1 ∧ w1 ≤ 60000 ∧ q.2.2.2.2.2.2 m 0 = .int (zi t1) ∧ 0 ≤ t1 ∧ t1 ≤ 2 ∧ ((qu < 1 ∨ 100 < qu) → t1 = 1) ∧ ((1 ≤ qu ∧ qu ≤ 100 ∧ cw = 0) → t1 = 2) ∧ ((1 ≤ qu ∧ qu ≤ 100 ∧ ¬ cw = 0) → (t1 = 0 ∧ z = w1 ∧ n1 = 0)) ∧ (¬ (1 ≤ qu ∧ qu ≤ 100 ∧ ¬ cw = 0) → n1 = n0) ∧ (w1 = (eEx qu cw (eEn (eTb nb qu) n0 ch cw iv (eCf C (eTb nb qu) cw ch (zup cw 8)) (zup cw 8 * zup ch 8).toNat tf tt th tl) sg).1) ∧ (gTs ty n1 q.2.2) ∧ (gSO ty (eEx qu cw (eEn (eTb nb qu) n0 ch cw iv (eCf C (eTb nb qu) cw ch (zup cw 8)) (zup cw 8 * zup ch 8).toNat tf tt th tl) sg) q.2.2) ∧ (gRn 64 ty 31 (eCm qu cw cm) q.2.2)) := by
                                  intro fu
                                  induction fu with
                                  | zero => intro h733 kz hm; exact absurd hm (Nat.not_lt_zero _)
                                  | succ fu ihlp730 =>
                                    intro h733 kz lp730m sh733 lp730f0 lp730k0 lp730k1 lp730k2 lp730k3 lp730k4 lp730k5 lp730k6 lp730k7 lp730k8 lp730k9 lp730k10 lp730k11 lp730k12 lp730k13 lp730k14 lp730k15 lp730k16 lp730k17 lp730k18 lp730k19 lp730k20 lp730k21 lp730k22 lp730k23
                                    refine gz_s 2 (pc' := 365) (L' := [some (.ref m), some (.int (zi qu)), some (.int (zi jn19v0)), some (.int (zi kz)), none]) (S' := [.int (zi 64), .int (zi kz)]) rfl ?_
                                    by_cases hc734 : (64 : Int) ≤ kz
                                    · refine gy_icT (pc' := 381) rfl (by decide) (by decide) (by omega) (by omega) hc734 ?_
                                      have hoz9 : gOz ty 31 (-1) 64 h733 := by have e9 := lp730k23; rwa [(by omega : kz = 64)] at e9
                                      have hts : gTs ty 0 h733 := gTs.anew (gRow.mk uq tc673 (by decide) (fun _ => rfl)) (gRow.mk uq tc674 (by decide) (fun _ => rfl)) hoz9
                                      refine gz_s 1 (pc' := 382) (L' := [some (.ref m), some (.int (zi qu)), some (.int (zi jn19v0)), some (.int (zi kz)), none]) (S' := [.ref m]) rfl ?_
                                      refine gs_gtk rfl (by decide) rfl sh733.1 tm rfl rfl lp730k9 ?_
                                      have hrw735 : gRn 64 ty 31 (eCm qu cw cm) h733 := by
                                        rw [eCm_y hok]; exact gOz.Rn (by decide) hoz9
                                      exact gz_end (I := .ireturn) (len := 1) rfl (Or.inl rfl) ⟨sh733, fq682_0, 0, fq682_0, jn1v0, rfl, (by omega), (by omega), lp730k10, (by omega), (by omega), lp730k9, (by omega), (by omega), lp730k3, (by omega), (by omega), (by omega), (by omega), (by omega), (by omega), (by omega), hts, lp730k22, hrw735⟩
                                    · refine gy_icF rfl (by decide) (by decide) (by omega) (by omega) hc734 ?_
                                      obtain ⟨f9, rf9, z9⟩ := lp730k23
                                      refine gz_s 1 (pc' := 369) (L' := [some (.ref m), some (.int (zi qu)), some (.int (zi jn19v0)), some (.int (zi kz)), none]) (S' := [.ref m]) rfl ?_
                                      refine gs_gtr rfl (by decide) rfl sh733.1 tm rfl rfl rfl (fun c736 ec736 tc736 => ?_)
                                      refine gz_s 2 (pc' := 374) (L' := [some (.ref m), some (.int (zi qu)), some (.int (zi jn19v0)), some (.int (zi kz)), none]) (S' := [.int (zi (-1)), .int (zi kz), .ref c736]) rfl ?_
                                      have hl737 : 64 ≤ h733.2.2.2.1 c736 ∧ h733.2.2.2.1 c736 ≤ 64 := gJ.rowl (G := gGG) sh733.1 tc736 rfl
                                      refine gs_ast rfl (by decide) sh733 tc736 rfl rfl rfl (by decide) (fun _ => rfl) (by omega) (by omega) (fun _ => (by decide : (31999 : Nat) ∈ ([1000, 1053, 1059, 1061, 1062, 1064, 1067, 1074, 1075, 31999, 32999, 33999, 34999, 36999, 37999, 38999, 39999, 40999, 41999, 42999] : List Nat))) (by omega) (by omega) (fun h738 sh738 eh738 fh738 => ?_)
                                      have pr739 := gRn.pt fh738 tc736 (by decide) lp730k11
                                      have pr740 := gRn.pt fh738 tc736 (by decide) lp730k12
                                      have pr741 := gRn.pt fh738 tc736 (by decide) lp730k13
                                      have pr742 := gRn.pt fh738 tc736 (by decide) lp730k14
                                      have pr743 := gRn.pt fh738 tc736 (by decide) lp730k15
                                      have pr744 := gRn.pt fh738 tc736 (by decide) lp730k16
                                      have pr745 := gRn.pt fh738 tc736 (by decide) lp730k17
                                      have pr746 := gRn.pt fh738 tc736 (by decide) lp730k19
                                      have pr747 := gRn.pt fh738 tc736 (by decide) lp730k20
                                      have pr748 := gSO.pt fh738 tc736 (by decide) lp730k22
                                      have pr749 := gRow.put (i := kz) (z := (-1)) uq tc736 (by decide) fh738 eh738 (by omega) (by omega) rf9
                                      have s750 := (fh738 m 50 (fun q => absurd (((tm).symm.trans (congrArg ty q.1)).trans tc736) (by decide))).trans lp730k0
                                      have s751 := (fh738 m 51 (fun q => absurd (((tm).symm.trans (congrArg ty q.1)).trans tc736) (by decide))).trans lp730k1
                                      have s752 := (fh738 m 52 (fun q => absurd (((tm).symm.trans (congrArg ty q.1)).trans tc736) (by decide))).trans lp730k2
                                      have s753 := (fh738 m 0 (fun q => absurd (((tm).symm.trans (congrArg ty q.1)).trans tc736) (by decide))).trans lp730k3
                                      have s754 := (fh738 m 64 (fun q => absurd (((tm).symm.trans (congrArg ty q.1)).trans tc736) (by decide))).trans lp730k4
                                      have s755 := (fh738 m 54 (fun q => absurd (((tm).symm.trans (congrArg ty q.1)).trans tc736) (by decide))).trans lp730k5
                                      have s756 := (fh738 m 55 (fun q => absurd (((tm).symm.trans (congrArg ty q.1)).trans tc736) (by decide))).trans lp730k6
                                      have s757 := (fh738 m 61 (fun q => absurd (((tm).symm.trans (congrArg ty q.1)).trans tc736) (by decide))).trans lp730k7
                                      have s758 := (fh738 m 62 (fun q => absurd (((tm).symm.trans (congrArg ty q.1)).trans tc736) (by decide))).trans lp730k8
                                      have s759 := (fh738 m 59 (fun q => absurd (((tm).symm.trans (congrArg ty q.1)).trans tc736) (by decide))).trans lp730k9
                                      have s760 := (fh738 m 53 (fun q => absurd (((tm).symm.trans (congrArg ty q.1)).trans tc736) (by decide))).trans lp730k10
                                      have s761 := (fh738 m 58 (fun q => absurd (((tm).symm.trans (congrArg ty q.1)).trans tc736) (by decide))).trans ec736
                                      have pr762 := gEl.set (i := kz) (z := (-1)) uq tc736 (by decide) eh738 (by omega) (by omega)
                                      have hoz763 : gOz ty 31 (-1) (kz + 1) h738 := gOz.step (by omega) pr749 z9
                                      refine gy_s 2 (pc' := 362) (L' := [some (.ref m), some (.int (zi qu)), some (.int (zi jn19v0)), some (.int ((zi kz) + zi 1)), none]) (S' := []) (L2 := [some (.ref m), some (.int (zi qu)), some (.int (zi jn19v0)), some (.int (zi (kz + 1))), none]) (S2 := []) rfl (by simp only [zi_add, zi_sub, zi_mul, zi_neg, zi_and1, zi_and7, zi_and15, zi_and31, zi_and255]) (by simp only [zi_add, zi_sub, zi_mul, zi_neg, zi_and1, zi_and7, zi_and15, zi_and31, zi_and255]) ?_
                                      exact gz_wk (ihlp730 h738 (kz + 1) (by omega) sh738 (by omega) s750 s751 s752 s753 s754 s755 s756 s757 s758 s759 s760 pr739 pr740 pr741 pr742 pr743 pr744 pr745 lp730k18 pr746 pr747 lp730k21 pr748 hoz763) (gLw.s (gLw.s (gLw.s (gLw.s (gLw.n gLw.z)))))
                                exact gz_wk (lp730 _ h707 0 (Nat.lt_succ_self _) sh707 (by omega) s720 s721 s722 s723 s724 s725 s726 s727 s728 s729 eh707 pr709 pr710 pr711 pr712 pr713 pr714 pr715 lp679k20 pr717 pr718 hok706 pr719 hoz732) (gLw.s (gLw.s (gLw.s (gLw.s (gLw.n gLw.z)))))
                              · refine gy_icF rfl (by decide) (by decide) (by omega) (by omega) hc681 ?_
                                refine gz_s 2 (pc' := 316) (L' := [some (.ref m), some (.int (zi qu)), some (.int (zi jn19v0)), some (.int (zi k3)), none]) (S' := [.ref m, .ref m]) rfl ?_
                                refine gs_gtk rfl (by decide) rfl sh680.1 tm rfl rfl lp679k6 ?_
                                refine gz_s 1 (pc' := 320) (L' := [some (.ref m), some (.int (zi qu)), some (.int (zi jn19v0)), some (.int (zi k3)), none]) (S' := [.int (zi k3), .ref c673, .ref m]) rfl ?_
                                have hl764 : 10 ≤ h680.2.2.2.1 c673 ∧ h680.2.2.2.1 c673 ≤ 10 := gJ.rowl (G := gGG) sh680.1 tc673 rfl
                                refine gs_ald rfl (by decide) sh680.1 tc673 rfl rfl rfl (by decide) (fun _ => rfl) (by omega) (by omega) (fun z765 ez765 az765 bz765 => ?_)
                                have hf766 := gRn.at (i := k3) (z := z765) lp679k15 tc673 ez765 (by omega) (by omega) (by omega)
                                refine gz_s 1 (pc' := 322) (L' := [some (.ref m), some (.int (zi qu)), some (.int (zi jn19v0)), some (.int (zi k3)), none]) (S' := [.ref m, .int (zi z765), .ref m]) rfl ?_
                                refine gs_gtk rfl (by decide) rfl sh680.1 tm rfl rfl lp679k7 ?_
                                refine gz_s 1 (pc' := 326) (L' := [some (.ref m), some (.int (zi qu)), some (.int (zi jn19v0)), some (.int (zi k3)), none]) (S' := [.int (zi k3), .ref c674, .int (zi z765), .ref m]) rfl ?_
                                have hl767 : 10 ≤ h680.2.2.2.1 c674 ∧ h680.2.2.2.1 c674 ≤ 10 := gJ.rowl (G := gGG) sh680.1 tc674 rfl
                                refine gs_ald rfl (by decide) sh680.1 tc674 rfl rfl rfl (by decide) (fun _ => rfl) (by omega) (by omega) (fun z768 ez768 az768 bz768 => ?_)
                                have hf769 := gRn.at (i := k3) (z := z768) lp679k16 tc674 ez768 (by omega) (by omega) (by omega)
                                have hl1 := gTl_st (f := tf) (t := tt) (k := k3) (a := z765) (b := z768) (by omega) hf766 hf769
                                have hl2 := gTl_le (f := tf) (t := tt) (k := k3 + 1) (n := n0) tle (by omega)
                                have hl3 := tle (k3).toNat (by omega)
                                rw [hf766, hf769] at hl3
                                have hl4 := lp679k20 (k3).toNat (by omega)
                                rw [hf766, hf769] at hl4
                                refine gz_s 1 (pc' := 328) (L' := [some (.ref m), some (.int (zi qu)), some (.int (zi jn19v0)), some (.int (zi k3)), none]) (S' := [.ref m, .int (zi z768), .int (zi z765), .ref m]) rfl ?_
                                refine gs_gtr rfl (by decide) rfl sh680.1 tm rfl rfl rfl (fun c770 ec770 tc770 => ?_)
                                refine gz_s 1 (pc' := 332) (L' := [some (.ref m), some (.int (zi qu)), some (.int (zi jn19v0)), some (.int (zi k3)), none]) (S' := [.int (zi k3), .ref c770, .int (zi z768), .int (zi z765), .ref m]) rfl ?_
                                have hl771 : 10 ≤ h680.2.2.2.1 c770 ∧ h680.2.2.2.1 c770 ≤ 10 := gJ.rowl (G := gGG) sh680.1 tc770 rfl
                                refine gs_ald rfl (by decide) sh680.1 tc770 rfl rfl rfl (by decide) (fun _ => rfl) (by omega) (by omega) (fun z772 ez772 az772 bz772 => ?_)
                                have hf773 := gRn.at (i := k3) (z := z772) lp679k17 tc770 ez772 (by omega) (by omega) (by omega)
                                refine gz_s 1 (pc' := 334) (L' := [some (.ref m), some (.int (zi qu)), some (.int (zi jn19v0)), some (.int (zi k3)), none]) (S' := [.ref m, .int (zi z772), .int (zi z768), .int (zi z765), .ref m]) rfl ?_
                                refine gs_gtr rfl (by decide) rfl sh680.1 tm rfl rfl rfl (fun c774 ec774 tc774 => ?_)
                                refine gz_s 1 (pc' := 338) (L' := [some (.ref m), some (.int (zi qu)), some (.int (zi jn19v0)), some (.int (zi k3)), none]) (S' := [.int (zi k3), .ref c774, .int (zi z772), .int (zi z768), .int (zi z765), .ref m]) rfl ?_
                                have hl775 : 10 ≤ h680.2.2.2.1 c774 ∧ h680.2.2.2.1 c774 ≤ 10 := gJ.rowl (G := gGG) sh680.1 tc774 rfl
                                refine gs_ald rfl (by decide) sh680.1 tc774 rfl rfl rfl (by decide) (fun _ => rfl) (by omega) (by omega) (fun z776 ez776 az776 bz776 => ?_)
                                have hf777 := gRn.at (i := k3) (z := z776) lp679k18 tc774 ez776 (by omega) (by omega) (by omega)
                                refine gz_call rfl (by decide) rfl (by decide) (by decide) (gcal_of rfl rfl rfl (Nat.le_of_ble_eq_true rfl) (gJ.recv (G := gGG) sh680.1 tm rfl rfl)) (mw_putScan _ sh680.1 m tm z765 (by omega) z768 (by omega) z772 (by omega) z776 (by omega) wv lp679k8 (by omega) uv lp679k9 (by omega) bv lp679k10 (by omega) fq24_0 lp679k5 (by omega) iv lp679k3 (by omega) (eCf C (eTb nb qu) cw ch (zup cw 8)) (eEk n0 iv (eCf C (eTb nb qu) cw ch (zup cw 8)) (zup cw 8 * zup ch 8).toNat tf tt th tl (eHd (eTb nb qu) n0 ch cw iv) k3) (by omega) (by omega) (by omega) (by omega) (by omega) uq lp679k23 lp679k24 lp679k22) (fun q778 _ wq778 => ?_)
                                obtain ⟨pq778, oq778, hq778⟩ := q778
                                obtain ⟨xq778, fq778_0, fq778_1, fq778_2, gq778, efq778_0, afq778_0, bfq778_0, efq778_1, afq778_1, bfq778_1, efq778_2, afq778_2, bfq778_2, uq778_0, uq778_1, uq778_2, uq778_3, uq778_4, yq778_0, yq778_1⟩ := wq778
                                refine ⟨_, gq778, ?_⟩
                                show gz gPP gGG gcn _ _ 342 [some (.ref m), some (.int (zi qu)), some (.int (zi jn19v0)), some (.int (zi k3)), none] [] hq778 _
                                have sq778 := gSs.tr sh680 xq778 (by decide)
                                have s779 := (xq778.2.2.2.2.2 m 53 (by rw [tm]; decide)).trans lp679k0
                                have s780 := (xq778.2.2.2.2.2 m 50 (by rw [tm]; decide)).trans lp679k1
                                have s781 := (xq778.2.2.2.2.2 m 51 (by rw [tm]; decide)).trans lp679k2
                                have s782 := (xq778.2.2.2.2.2 m 52 (by rw [tm]; decide)).trans lp679k3
                                have s783 := (xq778.2.2.2.2.2 m 0 (by rw [tm]; decide)).trans lp679k4
                                have s784 := (xq778.2.2.2.2.2 m 64 (by rw [tm]; decide)).trans lp679k5
                                have s785 := (xq778.2.2.2.2.2 m 54 (by rw [tm]; decide)).trans lp679k6
                                have s786 := (xq778.2.2.2.2.2 m 55 (by rw [tm]; decide)).trans lp679k7
                                have s787 := (xq778.2.2.2.2.2 m 56 (by rw [tm]; decide)).trans ec770
                                have s788 := (xq778.2.2.2.2.2 m 57 (by rw [tm]; decide)).trans ec774
                                have pr789 := gTs.fr xq778.2 (by decide) lp679k11
                                have pr790 := gRn.fr xq778.2 (by decide) lp679k12
                                have pr791 := gRn.fr xq778.2 (by decide) lp679k13
                                have pr792 := gRn.fr xq778.2 (by decide) lp679k14
                                have pr793 := gRn.fr xq778.2 (by decide) lp679k15
                                have pr794 := gRn.fr xq778.2 (by decide) lp679k16
                                have pr795 := gRn.fr xq778.2 (by decide) lp679k17
                                have pr796 := gRn.fr xq778.2 (by decide) lp679k18
                                have pr797 := gRn.fr xq778.2 (by decide) lp679k19
                                have pr798 := gRn.fr xq778.2 (by decide) lp679k21
                                have pr799 := gRn.fr xq778.2 (by decide) lp679k22
                                have hk800 : eEk n0 iv (eCf C (eTb nb qu) cw ch (zup cw 8)) (zup cw 8 * zup ch 8).toNat tf tt th tl (eHd (eTb nb qu) n0 ch cw iv) (k3 + 1) = eSc iv z765 z768 z772 z776 (eCf C (eTb nb qu) cw ch (zup cw 8)) (fq24_0).toNat (eEk n0 iv (eCf C (eTb nb qu) cw ch (zup cw 8)) (zup cw 8 * zup ch 8).toNat tf tt th tl (eHd (eTb nb qu) n0 ch cw iv) k3) := by rw [hmn]; exact eEk_s (by omega) (by omega) hf766 hf769 hf773 hf777
                                have hk800_1 : (eEk n0 iv (eCf C (eTb nb qu) cw ch (zup cw 8)) (zup cw 8 * zup ch 8).toNat tf tt th tl (eHd (eTb nb qu) n0 ch cw iv) (k3 + 1)).1 = (eSc iv z765 z768 z772 z776 (eCf C (eTb nb qu) cw ch (zup cw 8)) (fq24_0).toNat (eEk n0 iv (eCf C (eTb nb qu) cw ch (zup cw 8)) (zup cw 8 * zup ch 8).toNat tf tt th tl (eHd (eTb nb qu) n0 ch cw iv) k3)).1 := by rw [hk800]
                                have hk800_21 : (eEk n0 iv (eCf C (eTb nb qu) cw ch (zup cw 8)) (zup cw 8 * zup ch 8).toNat tf tt th tl (eHd (eTb nb qu) n0 ch cw iv) (k3 + 1)).2.1 = (eSc iv z765 z768 z772 z776 (eCf C (eTb nb qu) cw ch (zup cw 8)) (fq24_0).toNat (eEk n0 iv (eCf C (eTb nb qu) cw ch (zup cw 8)) (zup cw 8 * zup ch 8).toNat tf tt th tl (eHd (eTb nb qu) n0 ch cw iv) k3)).2.1 := by rw [hk800]
                                have hk800_221 : (eEk n0 iv (eCf C (eTb nb qu) cw ch (zup cw 8)) (zup cw 8 * zup ch 8).toNat tf tt th tl (eHd (eTb nb qu) n0 ch cw iv) (k3 + 1)).2.2.1 = (eSc iv z765 z768 z772 z776 (eCf C (eTb nb qu) cw ch (zup cw 8)) (fq24_0).toNat (eEk n0 iv (eCf C (eTb nb qu) cw ch (zup cw 8)) (zup cw 8 * zup ch 8).toNat tf tt th tl (eHd (eTb nb qu) n0 ch cw iv) k3)).2.2.1 := by rw [hk800]
                                have hso801 : gSO ty (eEk n0 iv (eCf C (eTb nb qu) cw ch (zup cw 8)) (zup cw 8 * zup ch 8).toNat tf tt th tl (eHd (eTb nb qu) n0 ch cw iv) (k3 + 1)) hq778 := by rw [hk800]; exact yq778_0
                                have hok802 : eeOk (eEk n0 iv (eCf C (eTb nb qu) cw ch (zup cw 8)) (zup cw 8 * zup ch 8).toNat tf tt th tl (eHd (eTb nb qu) n0 ch cw iv) (k3 + 1)) := by rw [hk800]; exact yq778_1
                                have hok802c := hok802.cur
                                refine gy_s 2 (pc' := 306) (L' := [some (.ref m), some (.int (zi qu)), some (.int (zi jn19v0)), some (.int ((zi k3) + zi 1)), none]) (S' := []) (L2 := [some (.ref m), some (.int (zi qu)), some (.int (zi jn19v0)), some (.int (zi (k3 + 1))), none]) (S2 := []) rfl (by simp only [zi_add, zi_sub, zi_mul, zi_neg, zi_and1, zi_and7, zi_and15, zi_and31, zi_and255]) (by simp only [zi_add, zi_sub, zi_mul, zi_neg, zi_and1, zi_and7, zi_and15, zi_and31, zi_and255]) ?_
                                exact gz_wk (ihlp679 hq778 (k3 + 1) fq778_0 fq778_1 fq778_2 (by omega) sq778 (by omega) (by omega) (by omega) (by omega) (by omega) (by omega) (by omega) (by omega) (by omega) (by omega) s779 s780 s781 s782 s783 s784 s785 s786 efq778_0 efq778_1 efq778_2 pr789 pr790 pr791 pr792 pr793 pr794 pr795 pr796 pr797 lp679k20 pr798 pr799 hso801 hok802) (gLw.s (gLw.s (gLw.s (gLw.s (gLw.n gLw.z)))))
                          have hl9 : gTl tf tt 0 = 0 := rfl
                          exact gz_wk (lp679 _ hq650 0 fq650_0 0 0 (Nat.lt_succ_self _) sq650 (by omega) (by omega) (by omega) (by omega) (by omega) (by omega) (by omega) (by omega) (by omega) (by omega) s651 s652 s653 s654 s655 s656 ec673 ec674 efq650_0 s657 s658 pr659 pr660 pr661 pr662 pr663 pr664 pr665 pr666 pr667 lp179k18 pr668 pr669 hso677 hok678) (gLw.s (gLw.s (gLw.s (gLw.s (gLw.n gLw.z)))))
                        · refine gy_ifF rfl (by decide) (by decide) (by omega) hc675 ?_
                          refine gz_s 5 (pc' := 301) (L' := [some (.ref m), some (.int (zi qu)), some (.int (zi jn19v0)), some (.int (zi k1)), none]) (S' := [.int (zi 0), .int (zi 0), .int (zi 63), .int (zi 0), .ref m]) rfl ?_
                          refine gz_call rfl (by decide) rfl (by decide) (by decide) (gcal_of rfl rfl rfl (Nat.le_of_ble_eq_true rfl) (gJ.recv (G := gGG) sq650.1 tm rfl rfl)) (mw_putScan _ sq650.1 m tm 0 (by omega) 63 (by omega) 0 (by omega) 0 (by omega) fq650_0 efq650_0 (by omega) 0 s657 (by omega) 0 s658 (by omega) fq24_0 s656 (by omega) iv s654 (by omega) (eCf C (eTb nb qu) cw ch (zup cw 8)) (eHd (eTb nb qu) n0 ch cw iv) (by omega) (by omega) (by omega) (by omega) (by omega) uq hso671 hok672 pr669) (fun q803 _ wq803 => ?_)
                          obtain ⟨pq803, oq803, hq803⟩ := q803
                          obtain ⟨xq803, fq803_0, fq803_1, fq803_2, gq803, efq803_0, afq803_0, bfq803_0, efq803_1, afq803_1, bfq803_1, efq803_2, afq803_2, bfq803_2, uq803_0, uq803_1, uq803_2, uq803_3, uq803_4, yq803_0, yq803_1⟩ := wq803
                          refine ⟨_, gq803, ?_⟩
                          show gz gPP gGG gcn _ _ 304 [some (.ref m), some (.int (zi qu)), some (.int (zi jn19v0)), some (.int (zi k1)), none] [] hq803 _
                          have sq803 := gSs.tr sq650 xq803 (by decide)
                          have s804 := (xq803.2.2.2.2.2 m 53 (by rw [tm]; decide)).trans s651
                          have s805 := (xq803.2.2.2.2.2 m 50 (by rw [tm]; decide)).trans s652
                          have s806 := (xq803.2.2.2.2.2 m 51 (by rw [tm]; decide)).trans s653
                          have s807 := (xq803.2.2.2.2.2 m 52 (by rw [tm]; decide)).trans s654
                          have s808 := (xq803.2.2.2.2.2 m 0 (by rw [tm]; decide)).trans s655
                          have s809 := (xq803.2.2.2.2.2 m 64 (by rw [tm]; decide)).trans s656
                          have s810 := (xq803.2.2.2.2.2 m 54 (by rw [tm]; decide)).trans ec673
                          have s811 := (xq803.2.2.2.2.2 m 55 (by rw [tm]; decide)).trans ec674
                          have pr812 := gTs.fr xq803.2 (by decide) pr659
                          have pr813 := gRn.fr xq803.2 (by decide) pr660
                          have pr814 := gRn.fr xq803.2 (by decide) pr661
                          have pr815 := gRn.fr xq803.2 (by decide) pr662
                          have pr816 := gRn.fr xq803.2 (by decide) pr663
                          have pr817 := gRn.fr xq803.2 (by decide) pr664
                          have pr818 := gRn.fr xq803.2 (by decide) pr665
                          have pr819 := gRn.fr xq803.2 (by decide) pr666
                          have pr820 := gRn.fr xq803.2 (by decide) pr667
                          have pr821 := gRn.fr xq803.2 (by decide) pr668
                          have pr822 := gRn.fr xq803.2 (by decide) pr669
                          have hk823 : eEk n0 iv (eCf C (eTb nb qu) cw ch (zup cw 8)) (zup cw 8 * zup ch 8).toNat tf tt th tl (eHd (eTb nb qu) n0 ch cw iv) 0 = eSc iv 0 63 0 0 (eCf C (eTb nb qu) cw ch (zup cw 8)) (fq24_0).toNat (eHd (eTb nb qu) n0 ch cw iv) := by rw [hmn]; exact eEk_z (by omega)
                          have hk823_1 : (eEk n0 iv (eCf C (eTb nb qu) cw ch (zup cw 8)) (zup cw 8 * zup ch 8).toNat tf tt th tl (eHd (eTb nb qu) n0 ch cw iv) 0).1 = (eSc iv 0 63 0 0 (eCf C (eTb nb qu) cw ch (zup cw 8)) (fq24_0).toNat (eHd (eTb nb qu) n0 ch cw iv)).1 := by rw [hk823]
                          have hk823_21 : (eEk n0 iv (eCf C (eTb nb qu) cw ch (zup cw 8)) (zup cw 8 * zup ch 8).toNat tf tt th tl (eHd (eTb nb qu) n0 ch cw iv) 0).2.1 = (eSc iv 0 63 0 0 (eCf C (eTb nb qu) cw ch (zup cw 8)) (fq24_0).toNat (eHd (eTb nb qu) n0 ch cw iv)).2.1 := by rw [hk823]
                          have hk823_221 : (eEk n0 iv (eCf C (eTb nb qu) cw ch (zup cw 8)) (zup cw 8 * zup ch 8).toNat tf tt th tl (eHd (eTb nb qu) n0 ch cw iv) 0).2.2.1 = (eSc iv 0 63 0 0 (eCf C (eTb nb qu) cw ch (zup cw 8)) (fq24_0).toNat (eHd (eTb nb qu) n0 ch cw iv)).2.2.1 := by rw [hk823]
                          have hso824 : gSO ty (eEk n0 iv (eCf C (eTb nb qu) cw ch (zup cw 8)) (zup cw 8 * zup ch 8).toNat tf tt th tl (eHd (eTb nb qu) n0 ch cw iv) 0) hq803 := by rw [hk823]; exact yq803_0
                          have hok825 : eeOk (eEk n0 iv (eCf C (eTb nb qu) cw ch (zup cw 8)) (zup cw 8 * zup ch 8).toNat tf tt th tl (eHd (eTb nb qu) n0 ch cw iv) 0) := by rw [hk823]; exact yq803_1
                          have hok825c := hok825.cur
                          refine gz_s 2 (pc' := 306) (L' := [some (.ref m), some (.int (zi qu)), some (.int (zi jn19v0)), some (.int (zi 0)), none]) (S' := []) rfl ?_
                          have lp826 : ∀ (fu : Nat) (h827 : gH) (k3 : Int) (wv : Int) (uv : Int) (bv : Int), (11 - k3).toNat < fu → gSs rT 1027 ty [1000, 1053, 1059, 1061, 1062, 1064, 1067, 1074, 1075, 31999, 32999, 33999, 34999, 36999, 37999, 38999, 39999, 40999, 41999, 42999] h h827 → (0 ≤ k3 ∧ k3 ≤ 10) → (0 ≤ wv ∧ wv ≤ 60000) → (0 ≤ uv ∧ uv ≤ 127) → (0 ≤ bv ∧ bv ≤ 0) → (n0 = 0 ∨ (4 * wv ≤ 1000 + 560 * gTl tf tt k3 + 3468 * k3)) → (n0 = 0 → (k3 = 0 ∧ wv ≤ 45000)) → (k3 ≤ n0) → (wv = (eEk n0 iv (eCf C (eTb nb qu) cw ch (zup cw 8)) (zup cw 8 * zup ch 8).toNat tf tt th tl (eHd (eTb nb qu) n0 ch cw iv) k3).1) → (uv = (eEk n0 iv (eCf C (eTb nb qu) cw ch (zup cw 8)) (zup cw 8 * zup ch 8).toNat tf tt th tl (eHd (eTb nb qu) n0 ch cw iv) k3).2.1) → (bv = (eEk n0 iv (eCf C (eTb nb qu) cw ch (zup cw 8)) (zup cw 8 * zup ch 8).toNat tf tt th tl (eHd (eTb nb qu) n0 ch cw iv) k3).2.2.1) → h827.2.2.2.2 m 53 = .int (zi n0) → h827.2.2.2.2 m 50 = .int (zi cw) → h827.2.2.2.2 m 51 = .int (zi ch) → h827.2.2.2.2 m 52 = .int (zi iv) → h827.2.2.2.2 m 0 = .int (zi jn1v0) → h827.2.2.2.2 m 64 = .int (zi fq24_0) → h827.2.2.2.2 m 54 = .ref c673 → h827.2.2.2.2 m 55 = .ref c674 → h827.2.2.2.2 m 59 = .int (zi wv) → h827.2.2.2.2 m 61 = .int (zi uv) → h827.2.2.2.2 m 62 = .int (zi bv) → gTs ty n0 h827 → gRn 1024 ty 26 C h827 → gRn 256 ty 8 nb h827 → gRn 64 ty 10 (fun i9 => eZz ((i9 : Nat) : Int)) h827 → gRn 10 ty 27 tf h827 → gRn 10 ty 28 tt h827 → gRn 10 ty 29 th h827 → gRn 10 ty 30 tl h827 → gRn 64 ty 31 cm h827 → (∀ j9 : Nat, j9 < n0.toNat → tf j9 = 0 → tt j9 = 0) → gRn 64 ty 34 (eTb nb qu) h827 → gRn (64 * fq24_0).toNat ty 33 (eCf C (eTb nb qu) cw ch (zup cw 8)) h827 → gSO ty (eEk n0 iv (eCf C (eTb nb qu) cw ch (zup cw 8)) (zup cw 8 * zup ch 8).toNat tf tt th tl (eHd (eTb nb qu) n0 ch cw iv) k3) h827 → eeOk (eEk n0 iv (eCf C (eTb nb qu) cw ch (zup cw 8)) (zup cw 8 * zup ch 8).toNat tf tt th tl (eHd (eTb nb qu) n0 ch cw iv) k3) → gz gPP gGG gcn (d + 6) gt183 306 [some (.ref m), some (.int (zi qu)), some (.int (zi jn19v0)), some (.int (zi k3)), none] [] h827 (fun q _ => gSs rT 1027 ty [1000, 1053, 1059, 1061, 1062, 1064, 1067, 1074, 1075, 31999, 32999, 33999, 34999, 36999, 37999, 38999, 39999, 40999, 41999, 42999] h q.2.2 ∧ ∃ z n1 w1 t1 : Int, gfin gt183 q.1 q.2.1 = some (some (.int (zi z))) ∧ 0 ≤ z ∧ z ≤ 60000 ∧ q.2.2.2.2.2.2 m 53 = .int (zi n1) ∧ 0 ≤ n1 ∧ n1 ≤ 10 ∧ q.2.2.2.2.2.2 m 59 = .int (zi w1) ∧ 0 ≤ w1 ∧ w1 ≤ 60000 ∧ q.2.2.2.2.2.2 m 0 = .int (zi t1) ∧ 0 ≤ t1 ∧ t1 ≤ 2 ∧ ((qu < 1 ∨ 100 < qu) → t1 = 1) ∧ ((1 ≤ qu ∧ qu ≤ 100 ∧ cw = 0) → t1 = 2) ∧ ((1 ≤ qu ∧ qu ≤ 100 ∧ ¬ cw = 0) → (t1 = 0 ∧ z = w1 ∧ n1 = 0)) ∧ (¬ (1 ≤ qu ∧ qu ≤ 100 ∧ ¬ cw = 0) → n1 = n0) ∧ (w1 = (eEx qu cw (eEn (eTb nb qu) n0 ch cw iv (eCf C (eTb nb qu) cw ch (zup cw 8)) (zup cw 8 * zup ch 8).toNat tf tt th tl) sg).1) ∧ (gTs ty n1 q.2.2) ∧ (gSO ty (eEx qu cw (eEn (eTb nb qu) n0 ch cw iv (eCf C (eTb nb qu) cw ch (zup cw 8)) (zup cw 8 * zup ch 8).toNat tf tt th tl) sg) q.2.2) ∧ (gRn 64 ty 31 (eCm qu cw cm) q.2.2)) := by
                            intro fu
                            induction fu with
                            | zero => intro h827 k3 wv uv bv hm; exact absurd hm (Nat.not_lt_zero _)
                            | succ fu ihlp826 =>
                              intro h827 k3 wv uv bv lp826m sh827 lp826f0 lp826f1 lp826f2 lp826f3 lp826f4 lp826f5 lp826f6 lp826f7 lp826f8 lp826f9 lp826k0 lp826k1 lp826k2 lp826k3 lp826k4 lp826k5 lp826k6 lp826k7 lp826k8 lp826k9 lp826k10 lp826k11 lp826k12 lp826k13 lp826k14 lp826k15 lp826k16 lp826k17 lp826k18 lp826k19 lp826k20 lp826k21 lp826k22 lp826k23 lp826k24
                              have hl0 := gTl_le (f := tf) (t := tt) (k := k3) (n := n0) tle
                              refine gz_s 2 (pc' := 308) (L' := [some (.ref m), some (.int (zi qu)), some (.int (zi jn19v0)), some (.int (zi k3)), none]) (S' := [.ref m, .int (zi k3)]) rfl ?_
                              refine gs_gtk rfl (by decide) rfl sh827.1 tm rfl rfl lp826k0 ?_
                              refine gy_icT (pc' := 348) rfl (by decide) (by decide) (by omega) (by omega) (by first | (simp [zc]; done) | (simp only [zc]; omega)) ?_
                              refine gz_s 2 (pc' := 352) (L' := [some (.ref m), some (.int (zi qu)), some (.int (zi jn19v0)), some (.int (zi k3)), none]) (S' := [.int (zi 217), .ref m]) rfl ?_
                              refine gz_call rfl (by decide) rfl (by decide) (by decide) (gcal_of rfl rfl rfl (Nat.le_of_ble_eq_true rfl) (gJ.recv (G := gGG) sh827.1 tm rfl rfl)) (mw_putMarker _ sh827.1 m tm 217 (by omega) wv lp826k8 (by omega) (eEk n0 iv (eCf C (eTb nb qu) cw ch (zup cw 8)) (zup cw 8 * zup ch 8).toNat tf tt th tl (eHd (eTb nb qu) n0 ch cw iv) k3) (by omega) uq lp826k23 lp826k24) (fun q828 _ wq828 => ?_)
                              obtain ⟨pq828, oq828, hq828⟩ := q828
                              obtain ⟨xq828, fq828_0, gq828, efq828_0, afq828_0, bfq828_0, uq828_0, uq828_1, uq828_2, uq828_3, yq828_0, yq828_1⟩ := wq828
                              refine ⟨_, gq828, ?_⟩
                              show gz gPP gGG gcn _ _ 355 [some (.ref m), some (.int (zi qu)), some (.int (zi jn19v0)), some (.int (zi k3)), none] [] hq828 _
                              have sq828 := gSs.tr sh827 xq828 (by decide)
                              have s829 := (xq828.2.2.2.2.2 m 53 (by rw [tm]; decide)).trans lp826k0
                              have s830 := (xq828.2.2.2.2.2 m 50 (by rw [tm]; decide)).trans lp826k1
                              have s831 := (xq828.2.2.2.2.2 m 51 (by rw [tm]; decide)).trans lp826k2
                              have s832 := (xq828.2.2.2.2.2 m 52 (by rw [tm]; decide)).trans lp826k3
                              have s833 := (xq828.2.2.2.2.2 m 0 (by rw [tm]; decide)).trans lp826k4
                              have s834 := (xq828.2.2.2.2.2 m 64 (by rw [tm]; decide)).trans lp826k5
                              have s835 := (xq828.2.2.2.2.2 m 54 (by rw [tm]; decide)).trans lp826k6
                              have s836 := (xq828.2.2.2.2.2 m 55 (by rw [tm]; decide)).trans lp826k7
                              have s837 := (xq828.2.2.2.2.2 m 61 (by rw [tm]; decide)).trans lp826k9
                              have s838 := (xq828.2.2.2.2.2 m 62 (by rw [tm]; decide)).trans lp826k10
                              have pr839 := gTs.fr xq828.2 (by decide) lp826k11
                              have pr840 := gRn.fr xq828.2 (by decide) lp826k12
                              have pr841 := gRn.fr xq828.2 (by decide) lp826k13
                              have pr842 := gRn.fr xq828.2 (by decide) lp826k14
                              have pr843 := gRn.fr xq828.2 (by decide) lp826k15
                              have pr844 := gRn.fr xq828.2 (by decide) lp826k16
                              have pr845 := gRn.fr xq828.2 (by decide) lp826k17
                              have pr846 := gRn.fr xq828.2 (by decide) lp826k18
                              have pr847 := gRn.fr xq828.2 (by decide) lp826k19
                              have pr848 := gRn.fr xq828.2 (by decide) lp826k21
                              have pr849 := gRn.fr xq828.2 (by decide) lp826k22
                              have hk850 : eEx qu cw (eEn (eTb nb qu) n0 ch cw iv (eCf C (eTb nb qu) cw ch (zup cw 8)) (zup cw 8 * zup ch 8).toNat tf tt th tl) sg = eeM (eEk n0 iv (eCf C (eTb nb qu) cw ch (zup cw 8)) (zup cw 8 * zup ch 8).toNat tf tt th tl (eHd (eTb nb qu) n0 ch cw iv) k3) 217 := by rw [eEx_y hok]; exact eEk_e (by omega)
                              have hk850_1 : (eEx qu cw (eEn (eTb nb qu) n0 ch cw iv (eCf C (eTb nb qu) cw ch (zup cw 8)) (zup cw 8 * zup ch 8).toNat tf tt th tl) sg).1 = (eeM (eEk n0 iv (eCf C (eTb nb qu) cw ch (zup cw 8)) (zup cw 8 * zup ch 8).toNat tf tt th tl (eHd (eTb nb qu) n0 ch cw iv) k3) 217).1 := by rw [hk850]
                              have hk850_21 : (eEx qu cw (eEn (eTb nb qu) n0 ch cw iv (eCf C (eTb nb qu) cw ch (zup cw 8)) (zup cw 8 * zup ch 8).toNat tf tt th tl) sg).2.1 = (eeM (eEk n0 iv (eCf C (eTb nb qu) cw ch (zup cw 8)) (zup cw 8 * zup ch 8).toNat tf tt th tl (eHd (eTb nb qu) n0 ch cw iv) k3) 217).2.1 := by rw [hk850]
                              have hk850_221 : (eEx qu cw (eEn (eTb nb qu) n0 ch cw iv (eCf C (eTb nb qu) cw ch (zup cw 8)) (zup cw 8 * zup ch 8).toNat tf tt th tl) sg).2.2.1 = (eeM (eEk n0 iv (eCf C (eTb nb qu) cw ch (zup cw 8)) (zup cw 8 * zup ch 8).toNat tf tt th tl (eHd (eTb nb qu) n0 ch cw iv) k3) 217).2.2.1 := by rw [hk850]
                              have hso851 : gSO ty (eEx qu cw (eEn (eTb nb qu) n0 ch cw iv (eCf C (eTb nb qu) cw ch (zup cw 8)) (zup cw 8 * zup ch 8).toNat tf tt th tl) sg) hq828 := by rw [hk850]; exact yq828_0
                              have hok852 : eeOk (eEx qu cw (eEn (eTb nb qu) n0 ch cw iv (eCf C (eTb nb qu) cw ch (zup cw 8)) (zup cw 8 * zup ch 8).toNat tf tt th tl) sg) := by rw [hk850]; exact yq828_1
                              have hok852c := hok852.cur
                              have hex : eEx qu cw (eEn (eTb nb qu) n0 ch cw iv (eCf C (eTb nb qu) cw ch (zup cw 8)) (zup cw 8 * zup ch 8).toNat tf tt th tl) sg = (eEn (eTb nb qu) n0 ch cw iv (eCf C (eTb nb qu) cw ch (zup cw 8)) (zup cw 8 * zup ch 8).toNat tf tt th tl) := eEx_y hok
                              refine gz_s 2 (pc' := 357) (L' := [some (.ref m), some (.int (zi qu)), some (.int (zi jn19v0)), some (.int (zi k3)), none]) (S' := [.int (zi 0), .ref m]) rfl ?_
                              refine gs_put rfl (by decide) rfl sq828 tm rfl rfl rfl rfl (Or.inl rfl) (by decide) (by omega) (by omega) (fun h853 sh853 eh853 fh853 => ?_)
                              have pr854 := gTs.pt fh853 tm (by decide) pr839
                              have pr855 := gRn.pt fh853 tm (by decide) pr840
                              have pr856 := gRn.pt fh853 tm (by decide) pr841
                              have pr857 := gRn.pt fh853 tm (by decide) pr842
                              have pr858 := gRn.pt fh853 tm (by decide) pr843
                              have pr859 := gRn.pt fh853 tm (by decide) pr844
                              have pr860 := gRn.pt fh853 tm (by decide) pr845
                              have pr861 := gRn.pt fh853 tm (by decide) pr846
                              have pr862 := gRn.pt fh853 tm (by decide) pr847
                              have pr863 := gRn.pt fh853 tm (by decide) pr848
                              have pr864 := gRn.pt fh853 tm (by decide) pr849
                              have pr865 := gSO.pt fh853 tm (by decide) hso851
                              have s866 := (fh853 m 50 (fun q => absurd q.2 (by decide))).trans s830
                              have s867 := (fh853 m 51 (fun q => absurd q.2 (by decide))).trans s831
                              have s868 := (fh853 m 52 (fun q => absurd q.2 (by decide))).trans s832
                              have s869 := (fh853 m 0 (fun q => absurd q.2 (by decide))).trans s833
                              have s870 := (fh853 m 64 (fun q => absurd q.2 (by decide))).trans s834
                              have s871 := (fh853 m 54 (fun q => absurd q.2 (by decide))).trans s835
                              have s872 := (fh853 m 55 (fun q => absurd q.2 (by decide))).trans s836
                              have s873 := (fh853 m 61 (fun q => absurd q.2 (by decide))).trans s837
                              have s874 := (fh853 m 62 (fun q => absurd q.2 (by decide))).trans s838
                              have s875 := (fh853 m 59 (fun q => absurd q.2 (by decide))).trans efq828_0
                              refine gz_s 2 (pc' := 362) (L' := [some (.ref m), some (.int (zi qu)), some (.int (zi jn19v0)), some (.int (zi 0)), none]) (S' := []) rfl ?_
                              obtain ⟨c877, ec877, tc877⟩ := gJ.ref (k := 58) (G := gGG) sh853.1 tm rfl rfl rfl
                              have hoz878 : gOz ty 31 (-1) 0 h853 := ⟨_, gRow.mk uq tc877 (by decide) (fun _ => rfl), fun j hj => absurd hj (by omega)⟩
                              have lp876 : ∀ (fu : Nat) (h879 : gH) (kz : Int), (65 - kz).toNat < fu → gSs rT 1027 ty [1000, 1053, 1059, 1061, 1062, 1064, 1067, 1074, 1075, 31999, 32999, 33999, 34999, 36999, 37999, 38999, 39999, 40999, 41999, 42999] h h879 → (0 ≤ kz ∧ kz ≤ 64) → h879.2.2.2.2 m 50 = .int (zi cw) → h879.2.2.2.2 m 51 = .int (zi ch) → h879.2.2.2.2 m 52 = .int (zi iv) → h879.2.2.2.2 m 0 = .int (zi jn1v0) → h879.2.2.2.2 m 64 = .int (zi fq24_0) → h879.2.2.2.2 m 54 = .ref c673 → h879.2.2.2.2 m 55 = .ref c674 → h879.2.2.2.2 m 61 = .int (zi uv) → h879.2.2.2.2 m 62 = .int (zi bv) → h879.2.2.2.2 m 59 = .int (zi fq828_0) → h879.2.2.2.2 m 53 = .int (zi 0) → gRn 1024 ty 26 C h879 → gRn 256 ty 8 nb h879 → gRn 64 ty 10 (fun i9 => eZz ((i9 : Nat) : Int)) h879 → gRn 10 ty 27 tf h879 → gRn 10 ty 28 tt h879 → gRn 10 ty 29 th h879 → gRn 10 ty 30 tl h879 → (∀ j9 : Nat, j9 < n0.toNat → tf j9 = 0 → tt j9 = 0) → gRn 64 ty 34 (eTb nb qu) h879 → gRn (64 * fq24_0).toNat ty 33 (eCf C (eTb nb qu) cw ch (zup cw 8)) h879 → eeOk (eEx qu cw (eEn (eTb nb qu) n0 ch cw iv (eCf C (eTb nb qu) cw ch (zup cw 8)) (zup cw 8 * zup ch 8).toNat tf tt th tl) sg) → gSO ty (eEx qu cw (eEn (eTb nb qu) n0 ch cw iv (eCf C (eTb nb qu) cw ch (zup cw 8)) (zup cw 8 * zup ch 8).toNat tf tt th tl) sg) h879 → gOz ty 31 (-1) kz h879 → gz gPP gGG gcn (d + 6) gt183 362 [some (.ref m), some (.int (zi qu)), some (.int (zi jn19v0)), some (.int (zi kz)), none] [] h879 (fun q _ => gSs rT 1027 ty [1000, 1053, 1059, 1061, 1062, 1064, 1067, 1074, 1075, 31999, 32999, 33999, 34999, 36999, 37999, 38999, 39999, 40999, 41999, 42999] h q.2.2 ∧ ∃ z n1 w1 t1 : Int, gfin gt183 q.1 q.2.1 = some (some (.int (zi z))) ∧ 0 ≤ z ∧ z ≤ 60000 ∧ q.2.2.2.2.2.2 m 53 = .int (zi n1) ∧ 0 ≤ n1 ∧ n1 ≤ 10 ∧ q.2.2.2.2.2.2 m 59 = .int (zi w1) ∧ 0 ≤ w1 ∧ w1 ≤ 60000 ∧ q.2.2.2.2.2.2 m 0 = .int (zi t1) ∧ 0 ≤ t1 ∧ t1 ≤ 2 ∧ ((qu < 1 ∨ 100 < qu) → t1 = 1) ∧ ((1 ≤ qu ∧ qu ≤ 100 ∧ cw = 0) → t1 = 2) ∧ ((1 ≤ qu ∧ qu ≤ 100 ∧ ¬ cw = 0) → (t1 = 0 ∧ z = w1 ∧ n1 = 0)) ∧ (¬ (1 ≤ qu ∧ qu ≤ 100 ∧ ¬ cw = 0) → n1 = n0) ∧ (w1 = (eEx qu cw (eEn (eTb nb qu) n0 ch cw iv (eCf C (eTb nb qu) cw ch (zup cw 8)) (zup cw 8 * zup ch 8).toNat tf tt th tl) sg).1) ∧ (gTs ty n1 q.2.2) ∧ (gSO ty (eEx qu cw (eEn (eTb nb qu) n0 ch cw iv (eCf C (eTb nb qu) cw ch (zup cw 8)) (zup cw 8 * zup ch 8).toNat tf tt th tl) sg) q.2.2) ∧ (gRn 64 ty 31 (eCm qu cw cm) q.2.2)) := by
                                intro fu
                                induction fu with
                                | zero => intro h879 kz hm; exact absurd hm (Nat.not_lt_zero _)
                                | succ fu ihlp876 =>
                                  intro h879 kz lp876m sh879 lp876f0 lp876k0 lp876k1 lp876k2 lp876k3 lp876k4 lp876k5 lp876k6 lp876k7 lp876k8 lp876k9 lp876k10 lp876k11 lp876k12 lp876k13 lp876k14 lp876k15 lp876k16 lp876k17 lp876k18 lp876k19 lp876k20 lp876k21 lp876k22 lp876k23
                                  refine gz_s 2 (pc' := 365) (L' := [some (.ref m), some (.int (zi qu)), some (.int (zi jn19v0)), some (.int (zi kz)), none]) (S' := [.int (zi 64), .int (zi kz)]) rfl ?_
                                  by_cases hc880 : (64 : Int) ≤ kz
                                  · refine gy_icT (pc' := 381) rfl (by decide) (by decide) (by omega) (by omega) hc880 ?_
                                    have hoz9 : gOz ty 31 (-1) 64 h879 := by have e9 := lp876k23; rwa [(by omega : kz = 64)] at e9
                                    have hts : gTs ty 0 h879 := gTs.anew (gRow.mk uq tc673 (by decide) (fun _ => rfl)) (gRow.mk uq tc674 (by decide) (fun _ => rfl)) hoz9
                                    refine gz_s 1 (pc' := 382) (L' := [some (.ref m), some (.int (zi qu)), some (.int (zi jn19v0)), some (.int (zi kz)), none]) (S' := [.ref m]) rfl ?_
                                    refine gs_gtk rfl (by decide) rfl sh879.1 tm rfl rfl lp876k9 ?_
                                    have hrw881 : gRn 64 ty 31 (eCm qu cw cm) h879 := by
                                      rw [eCm_y hok]; exact gOz.Rn (by decide) hoz9
                                    exact gz_end (I := .ireturn) (len := 1) rfl (Or.inl rfl) ⟨sh879, fq828_0, 0, fq828_0, jn1v0, rfl, (by omega), (by omega), lp876k10, (by omega), (by omega), lp876k9, (by omega), (by omega), lp876k3, (by omega), (by omega), (by omega), (by omega), (by omega), (by omega), (by omega), hts, lp876k22, hrw881⟩
                                  · refine gy_icF rfl (by decide) (by decide) (by omega) (by omega) hc880 ?_
                                    obtain ⟨f9, rf9, z9⟩ := lp876k23
                                    refine gz_s 1 (pc' := 369) (L' := [some (.ref m), some (.int (zi qu)), some (.int (zi jn19v0)), some (.int (zi kz)), none]) (S' := [.ref m]) rfl ?_
                                    refine gs_gtr rfl (by decide) rfl sh879.1 tm rfl rfl rfl (fun c882 ec882 tc882 => ?_)
                                    refine gz_s 2 (pc' := 374) (L' := [some (.ref m), some (.int (zi qu)), some (.int (zi jn19v0)), some (.int (zi kz)), none]) (S' := [.int (zi (-1)), .int (zi kz), .ref c882]) rfl ?_
                                    have hl883 : 64 ≤ h879.2.2.2.1 c882 ∧ h879.2.2.2.1 c882 ≤ 64 := gJ.rowl (G := gGG) sh879.1 tc882 rfl
                                    refine gs_ast rfl (by decide) sh879 tc882 rfl rfl rfl (by decide) (fun _ => rfl) (by omega) (by omega) (fun _ => (by decide : (31999 : Nat) ∈ ([1000, 1053, 1059, 1061, 1062, 1064, 1067, 1074, 1075, 31999, 32999, 33999, 34999, 36999, 37999, 38999, 39999, 40999, 41999, 42999] : List Nat))) (by omega) (by omega) (fun h884 sh884 eh884 fh884 => ?_)
                                    have pr885 := gRn.pt fh884 tc882 (by decide) lp876k11
                                    have pr886 := gRn.pt fh884 tc882 (by decide) lp876k12
                                    have pr887 := gRn.pt fh884 tc882 (by decide) lp876k13
                                    have pr888 := gRn.pt fh884 tc882 (by decide) lp876k14
                                    have pr889 := gRn.pt fh884 tc882 (by decide) lp876k15
                                    have pr890 := gRn.pt fh884 tc882 (by decide) lp876k16
                                    have pr891 := gRn.pt fh884 tc882 (by decide) lp876k17
                                    have pr892 := gRn.pt fh884 tc882 (by decide) lp876k19
                                    have pr893 := gRn.pt fh884 tc882 (by decide) lp876k20
                                    have pr894 := gSO.pt fh884 tc882 (by decide) lp876k22
                                    have pr895 := gRow.put (i := kz) (z := (-1)) uq tc882 (by decide) fh884 eh884 (by omega) (by omega) rf9
                                    have s896 := (fh884 m 50 (fun q => absurd (((tm).symm.trans (congrArg ty q.1)).trans tc882) (by decide))).trans lp876k0
                                    have s897 := (fh884 m 51 (fun q => absurd (((tm).symm.trans (congrArg ty q.1)).trans tc882) (by decide))).trans lp876k1
                                    have s898 := (fh884 m 52 (fun q => absurd (((tm).symm.trans (congrArg ty q.1)).trans tc882) (by decide))).trans lp876k2
                                    have s899 := (fh884 m 0 (fun q => absurd (((tm).symm.trans (congrArg ty q.1)).trans tc882) (by decide))).trans lp876k3
                                    have s900 := (fh884 m 64 (fun q => absurd (((tm).symm.trans (congrArg ty q.1)).trans tc882) (by decide))).trans lp876k4
                                    have s901 := (fh884 m 54 (fun q => absurd (((tm).symm.trans (congrArg ty q.1)).trans tc882) (by decide))).trans lp876k5
                                    have s902 := (fh884 m 55 (fun q => absurd (((tm).symm.trans (congrArg ty q.1)).trans tc882) (by decide))).trans lp876k6
                                    have s903 := (fh884 m 61 (fun q => absurd (((tm).symm.trans (congrArg ty q.1)).trans tc882) (by decide))).trans lp876k7
                                    have s904 := (fh884 m 62 (fun q => absurd (((tm).symm.trans (congrArg ty q.1)).trans tc882) (by decide))).trans lp876k8
                                    have s905 := (fh884 m 59 (fun q => absurd (((tm).symm.trans (congrArg ty q.1)).trans tc882) (by decide))).trans lp876k9
                                    have s906 := (fh884 m 53 (fun q => absurd (((tm).symm.trans (congrArg ty q.1)).trans tc882) (by decide))).trans lp876k10
                                    have s907 := (fh884 m 58 (fun q => absurd (((tm).symm.trans (congrArg ty q.1)).trans tc882) (by decide))).trans ec882
                                    have pr908 := gEl.set (i := kz) (z := (-1)) uq tc882 (by decide) eh884 (by omega) (by omega)
                                    have hoz909 : gOz ty 31 (-1) (kz + 1) h884 := gOz.step (by omega) pr895 z9
                                    refine gy_s 2 (pc' := 362) (L' := [some (.ref m), some (.int (zi qu)), some (.int (zi jn19v0)), some (.int ((zi kz) + zi 1)), none]) (S' := []) (L2 := [some (.ref m), some (.int (zi qu)), some (.int (zi jn19v0)), some (.int (zi (kz + 1))), none]) (S2 := []) rfl (by simp only [zi_add, zi_sub, zi_mul, zi_neg, zi_and1, zi_and7, zi_and15, zi_and31, zi_and255]) (by simp only [zi_add, zi_sub, zi_mul, zi_neg, zi_and1, zi_and7, zi_and15, zi_and31, zi_and255]) ?_
                                    exact gz_wk (ihlp876 h884 (kz + 1) (by omega) sh884 (by omega) s896 s897 s898 s899 s900 s901 s902 s903 s904 s905 s906 pr885 pr886 pr887 pr888 pr889 pr890 pr891 lp876k18 pr892 pr893 lp876k21 pr894 hoz909) (gLw.s (gLw.s (gLw.s (gLw.s (gLw.n gLw.z)))))
                              exact gz_wk (lp876 _ h853 0 (Nat.lt_succ_self _) sh853 (by omega) s866 s867 s868 s869 s870 s871 s872 s873 s874 s875 eh853 pr855 pr856 pr857 pr858 pr859 pr860 pr861 lp826k20 pr863 pr864 hok852 pr865 hoz878) (gLw.s (gLw.s (gLw.s (gLw.s (gLw.n gLw.z)))))
                          have hl9 : gTl tf tt 0 = 0 := rfl
                          exact gz_wk (lp826 _ hq803 0 fq803_0 fq803_1 fq803_2 (Nat.lt_succ_self _) sq803 (by omega) (by omega) (by omega) (by omega) (by omega) (by omega) (by omega) (by omega) (by omega) (by omega) s804 s805 s806 s807 s808 s809 s810 s811 efq803_0 efq803_1 efq803_2 pr812 pr813 pr814 pr815 pr816 pr817 pr818 pr819 pr820 lp179k18 pr821 pr822 hso824 hok825) (gLw.s (gLw.s (gLw.s (gLw.s (gLw.n gLw.z)))))
                    by_cases hc910 : (n0 : Int) ≤ 0
                    · refine gy_ifT (pc' := 206) rfl (by decide) (by decide) (by omega) hc910 ?_
                      refine gz_s 1 (pc' := 209) (L' := [some (.ref m), some (.int (zi qu)), some (.int (zi jn19v0)), some (.int (zi k1)), none]) (S' := [.int (zi 192), .ref m]) rfl ?_
                      exact jn188 192 (by omega)
                    · refine gy_ifF rfl (by decide) (by decide) (by omega) hc910 ?_
                      refine gz_s 2 (pc' := 209) (L' := [some (.ref m), some (.int (zi qu)), some (.int (zi jn19v0)), some (.int (zi k1)), none]) (S' := [.int (zi 194), .ref m]) rfl ?_
                      exact jn188 194 (by omega)
                  · refine gy_icF rfl (by decide) (by decide) (by omega) (by omega) hc184 ?_
                    refine gz_s 2 (pc' := 178) (L' := [some (.ref m), some (.int (zi qu)), some (.int (zi jn19v0)), some (.int (zi k1)), none]) (S' := [.ref m, .ref m]) rfl ?_
                    refine gs_gtr rfl (by decide) rfl sh183.1 tm rfl rfl rfl (fun c911 ec911 tc911 => ?_)
                    refine gz_s 1 (pc' := 182) (L' := [some (.ref m), some (.int (zi qu)), some (.int (zi jn19v0)), some (.int (zi k1)), none]) (S' := [.int (zi k1), .ref c911, .ref m]) rfl ?_
                    have hl912 : 64 ≤ h183.2.2.2.1 c911 ∧ h183.2.2.2.1 c911 ≤ 64 := gJ.rowl (G := gGG) sh183.1 tc911 rfl
                    refine gs_ald rfl (by decide) sh183.1 tc911 rfl rfl rfl (by decide) (fun _ => rfl) (by omega) (by omega) (fun z913 ez913 az913 bz913 => ?_)
                    have hf914 := gRn.at (i := k1) (z := z913) lp179k19 tc911 ez913 (by omega) (by omega) (by omega)
                    refine gz_call rfl (by decide) rfl (by decide) (by decide) (gcal_of rfl rfl rfl (Nat.le_of_ble_eq_true rfl) (gJ.recv (G := gGG) sh183.1 tm rfl rfl)) (mw_putByte _ sh183.1 m tm z913 (by omega) wa lp179k8 (by omega) (eHt (eTb nb qu) (eeB (eeT (eeM (eeM ((0, 0, 0, fun _ => 0) : gWt) 216) 219) 67) 0) (k1).toNat) (by omega) uq lp179k21 lp179k22) (fun q915 _ wq915 => ?_)
                    obtain ⟨pq915, oq915, hq915⟩ := q915
                    obtain ⟨xq915, fq915_0, gq915, efq915_0, afq915_0, bfq915_0, uq915_0, uq915_1, uq915_2, uq915_3, yq915_0, yq915_1⟩ := wq915
                    refine ⟨_, gq915, ?_⟩
                    show gz gPP gGG gcn _ _ 186 [some (.ref m), some (.int (zi qu)), some (.int (zi jn19v0)), some (.int (zi k1)), none] [] hq915 _
                    have sq915 := gSs.tr sh183 xq915 (by decide)
                    have s916 := (xq915.2.2.2.2.2 m 53 (by rw [tm]; decide)).trans lp179k0
                    have s917 := (xq915.2.2.2.2.2 m 50 (by rw [tm]; decide)).trans lp179k1
                    have s918 := (xq915.2.2.2.2.2 m 51 (by rw [tm]; decide)).trans lp179k2
                    have s919 := (xq915.2.2.2.2.2 m 52 (by rw [tm]; decide)).trans lp179k3
                    have s920 := (xq915.2.2.2.2.2 m 0 (by rw [tm]; decide)).trans lp179k4
                    have s921 := (xq915.2.2.2.2.2 m 64 (by rw [tm]; decide)).trans lp179k5
                    have s922 := (xq915.2.2.2.2.2 m 61 (by rw [tm]; decide)).trans lp179k6
                    have s923 := (xq915.2.2.2.2.2 m 62 (by rw [tm]; decide)).trans lp179k7
                    have s924 := (xq915.2.2.2.2.2 m 65 (by rw [tm]; decide)).trans ec911
                    have pr925 := gTs.fr xq915.2 (by decide) lp179k9
                    have pr926 := gRn.fr xq915.2 (by decide) lp179k10
                    have pr927 := gRn.fr xq915.2 (by decide) lp179k11
                    have pr928 := gRn.fr xq915.2 (by decide) lp179k12
                    have pr929 := gRn.fr xq915.2 (by decide) lp179k13
                    have pr930 := gRn.fr xq915.2 (by decide) lp179k14
                    have pr931 := gRn.fr xq915.2 (by decide) lp179k15
                    have pr932 := gRn.fr xq915.2 (by decide) lp179k16
                    have pr933 := gRn.fr xq915.2 (by decide) lp179k17
                    have pr934 := gRn.fr xq915.2 (by decide) lp179k19
                    have pr935 := gRn.fr xq915.2 (by decide) lp179k20
                    have hk936 : eHt (eTb nb qu) (eeB (eeT (eeM (eeM ((0, 0, 0, fun _ => 0) : gWt) 216) 219) 67) 0) (k1 + 1).toNat = eeB (eHt (eTb nb qu) (eeB (eeT (eeM (eeM ((0, 0, 0, fun _ => 0) : gWt) 216) 219) 67) 0) (k1).toNat) z913 := by rw [(by omega : (k1 + 1).toNat = (k1).toNat + 1)]; show eeB _ ((eTb nb qu) (k1).toNat) = _; rw [hf914]
                    have hk936_1 : (eHt (eTb nb qu) (eeB (eeT (eeM (eeM ((0, 0, 0, fun _ => 0) : gWt) 216) 219) 67) 0) (k1 + 1).toNat).1 = (eeB (eHt (eTb nb qu) (eeB (eeT (eeM (eeM ((0, 0, 0, fun _ => 0) : gWt) 216) 219) 67) 0) (k1).toNat) z913).1 := by rw [hk936]
                    have hk936_21 : (eHt (eTb nb qu) (eeB (eeT (eeM (eeM ((0, 0, 0, fun _ => 0) : gWt) 216) 219) 67) 0) (k1 + 1).toNat).2.1 = (eeB (eHt (eTb nb qu) (eeB (eeT (eeM (eeM ((0, 0, 0, fun _ => 0) : gWt) 216) 219) 67) 0) (k1).toNat) z913).2.1 := by rw [hk936]
                    have hk936_221 : (eHt (eTb nb qu) (eeB (eeT (eeM (eeM ((0, 0, 0, fun _ => 0) : gWt) 216) 219) 67) 0) (k1 + 1).toNat).2.2.1 = (eeB (eHt (eTb nb qu) (eeB (eeT (eeM (eeM ((0, 0, 0, fun _ => 0) : gWt) 216) 219) 67) 0) (k1).toNat) z913).2.2.1 := by rw [hk936]
                    have hso937 : gSO ty (eHt (eTb nb qu) (eeB (eeT (eeM (eeM ((0, 0, 0, fun _ => 0) : gWt) 216) 219) 67) 0) (k1 + 1).toNat) hq915 := by rw [hk936]; exact yq915_0
                    have hok938 : eeOk (eHt (eTb nb qu) (eeB (eeT (eeM (eeM ((0, 0, 0, fun _ => 0) : gWt) 216) 219) 67) 0) (k1 + 1).toNat) := by rw [hk936]; exact yq915_1
                    have hok938c := hok938.cur
                    refine gy_s 2 (pc' := 170) (L' := [some (.ref m), some (.int (zi qu)), some (.int (zi jn19v0)), some (.int ((zi k1) + zi 1)), none]) (S' := []) (L2 := [some (.ref m), some (.int (zi qu)), some (.int (zi jn19v0)), some (.int (zi (k1 + 1))), none]) (S2 := []) rfl (by simp only [zi_add, zi_sub, zi_mul, zi_neg, zi_and1, zi_and7, zi_and15, zi_and31, zi_and255]) (by simp only [zi_add, zi_sub, zi_mul, zi_neg, zi_and1, zi_and7, zi_and15, zi_and31, zi_and255]) ?_
                    exact gz_wk (ihlp179 hq915 (k1 + 1) fq915_0 (by omega) sq915 (by omega) (by omega) (by omega) (by omega) (by omega) (by omega) s916 s917 s918 s919 s920 s921 s922 s923 efq915_0 pr925 pr926 pr927 pr928 pr929 pr930 pr931 pr932 pr933 lp179k18 pr934 pr935 hso937 hok938) (gLw.s (gLw.s (gLw.s (gLw.s (gLw.n gLw.z)))))
              have he1 : (eHt (eTb nb qu) (eeB (eeT (eeM (eeM ((0, 0, 0, fun _ => 0) : gWt) 216) 219) 67) 0) (0 : Int).toNat).2.1 = 0 := rfl
              have he2 : (eHt (eTb nb qu) (eeB (eeT (eeM (eeM ((0, 0, 0, fun _ => 0) : gWt) 216) 219) 67) 0) (0 : Int).toNat).2.2.1 = 0 := rfl
              exact gz_wk (lp179 _ hq159 0 fq159_0 (Nat.lt_succ_self _) sq159 (by omega) (by omega) (by omega) (by omega) (by omega) (by omega) s160 s161 s162 s163 s164 s165 s166 s167 efq159_0 pr168 pr169 pr170 pr171 pr172 pr173 pr174 pr175 pr176 lp20k15 pr177 pr178 hso181 hok182) (gLw.s (gLw.s (gLw.s (gLw.s (gLw.n gLw.z)))))
            · refine gy_icF rfl (by decide) (by decide) (by omega) (by omega) hc22 ?_
              refine gz_s 1 (pc' := 71) (L' := [some (.ref m), some (.int (zi qu)), some (.int (zi jn19v0)), some (.int (zi k)), none]) (S' := [.ref m]) rfl ?_
              refine gs_gtr rfl (by decide) rfl sh21.1 tm rfl rfl rfl (fun c939 ec939 tc939 => ?_)
              refine gz_s 1 (pc' := 75) (L' := [some (.ref m), some (.int (zi qu)), some (.int (zi jn19v0)), some (.int (zi k)), none]) (S' := [.int (zi k), .ref c939]) rfl ?_
              have hl940 : 256 ≤ h21.2.2.2.1 c939 ∧ h21.2.2.2.1 c939 ≤ 256 := gJ.rowl (G := gGG) sh21.1 tc939 rfl
              refine gs_ald rfl (by decide) sh21.1 tc939 rfl rfl rfl (by decide) (fun _ => rfl) (by omega) (by omega) (fun z941 ez941 az941 bz941 => ?_)
              have hf942 := gRn.at (i := k) (z := z941) lp20k8 tc939 ez941 (by omega) (by omega) (by omega)
              have hx943 := zx_f (a := z941) (b := jn19v0) (A := 255) (B := 5000) (by omega) (by omega) (by omega) (by omega)
              refine gy_s 5 (pc' := 83) (L' := [some (.ref m), some (.int (zi qu)), some (.int (zi jn19v0)), some (.int (zi k)), none]) (S' := [.int (zi 100), .int (((zi z941) * (zi jn19v0)) + (zi 50))]) (L2 := [some (.ref m), some (.int (zi qu)), some (.int (zi jn19v0)), some (.int (zi k)), none]) (S2 := [.int (zi 100), .int (zi ((z941 * jn19v0) + 50))]) rfl (by simp only [zi_add, zi_sub, zi_mul, zi_neg, zi_and1, zi_and7, zi_and15, zi_and31, zi_and255]) (by simp only [zi_add, zi_sub, zi_mul, zi_neg, zi_and1, zi_and7, zi_and15, zi_and31, zi_and255]) ?_
              refine gy_div rfl (by decide) (by omega) (by omega) ?_
              refine gz_s 2 (pc' := 87) (L' := [some (.ref m), some (.int (zi qu)), some (.int (zi jn19v0)), some (.int (zi k)), some (.int (zi (((z941 * jn19v0) + 50) / 100)))]) (S' := [.ref m]) rfl ?_
              refine gs_gtr rfl (by decide) rfl sh21.1 tm rfl rfl rfl (fun c944 ec944 tc944 => ?_)
              refine gz_s 3 (pc' := 94) (L' := [some (.ref m), some (.int (zi qu)), some (.int (zi jn19v0)), some (.int (zi k)), some (.int (zi (((z941 * jn19v0) + 50) / 100)))]) (S' := [.int (zi 1), .int (zi (((z941 * jn19v0) + 50) / 100)), .int (zi k), .ref c944]) rfl ?_
              have jn945 : ∀ (jn945v0 : Int), ((1 ≤ jn945v0) ∧ (jn945v0 ≤ 255) ∧ (jn945v0 = if ((z941 * jn19v0) + 50) / 100 < 1 then 1 else if 255 < (((z941 * jn19v0) + 50) / 100) then 255 else ((z941 * jn19v0) + 50) / 100)) → gz gPP gGG gcn (d + 6) gt183 117 [some (.ref m), some (.int (zi qu)), some (.int (zi jn19v0)), some (.int (zi k)), some (.int (zi (((z941 * jn19v0) + 50) / 100)))] [.int (zi jn945v0), .int (zi k), .ref c944] h21 (fun q _ => gSs rT 1027 ty [1000, 1053, 1059, 1061, 1062, 1064, 1067, 1074, 1075, 31999, 32999, 33999, 34999, 36999, 37999, 38999, 39999, 40999, 41999, 42999] h q.2.2 ∧ ∃ z n1 w1 t1 : Int, gfin gt183 q.1 q.2.1 = some (some (.int (zi z))) ∧ 0 ≤ z ∧ z ≤ 60000 ∧ q.2.2.2.2.2.2 m 53 = .int (zi n1) ∧ 0 ≤ n1 ∧ n1 ≤ 10 ∧ q.2.2.2.2.2.2 m 59 = .int (zi w1) ∧ 0 ≤ w1 ∧ w1 ≤ 60000 ∧ q.2.2.2.2.2.2 m 0 = .int (zi t1) ∧ 0 ≤ t1 ∧ t1 ≤ 2 ∧ ((qu < 1 ∨ 100 < qu) → t1 = 1) ∧ ((1 ≤ qu ∧ qu ≤ 100 ∧ cw = 0) → t1 = 2) ∧ ((1 ≤ qu ∧ qu ≤ 100 ∧ ¬ cw = 0) → (t1 = 0 ∧ z = w1 ∧ n1 = 0)) ∧ (¬ (1 ≤ qu ∧ qu ≤ 100 ∧ ¬ cw = 0) → n1 = n0) ∧ (w1 = (eEx qu cw (eEn (eTb nb qu) n0 ch cw iv (eCf C (eTb nb qu) cw ch (zup cw 8)) (zup cw 8 * zup ch 8).toNat tf tt th tl) sg).1) ∧ (gTs ty n1 q.2.2) ∧ (gSO ty (eEx qu cw (eEn (eTb nb qu) n0 ch cw iv (eCf C (eTb nb qu) cw ch (zup cw 8)) (zup cw 8 * zup ch 8).toNat tf tt th tl) sg) q.2.2) ∧ (gRn 64 ty 31 (eCm qu cw cm) q.2.2)) := by
                intro jn945v0 jn945d
                have hl946 : 64 ≤ h21.2.2.2.1 c944 ∧ h21.2.2.2.1 c944 ≤ 64 := gJ.rowl (G := gGG) sh21.1 tc944 rfl
                refine gs_ast rfl (by decide) sh21 tc944 rfl rfl rfl (by decide) (fun _ => rfl) (by omega) (by omega) (fun _ => (by decide : (34999 : Nat) ∈ ([1000, 1053, 1059, 1061, 1062, 1064, 1067, 1074, 1075, 31999, 32999, 33999, 34999, 36999, 37999, 38999, 39999, 40999, 41999, 42999] : List Nat))) (by omega) (by omega) (fun h947 sh947 eh947 fh947 => ?_)
                have pr948 := gTs.pt fh947 tc944 (by decide) lp20k6
                have pr949 := gRn.pt fh947 tc944 (by decide) lp20k7
                have pr950 := gRn.pt fh947 tc944 (by decide) lp20k8
                have pr951 := gRn.pt fh947 tc944 (by decide) lp20k9
                have pr952 := gRn.pt fh947 tc944 (by decide) lp20k10
                have pr953 := gRn.pt fh947 tc944 (by decide) lp20k11
                have pr954 := gRn.pt fh947 tc944 (by decide) lp20k12
                have pr955 := gRn.pt fh947 tc944 (by decide) lp20k13
                have pr956 := gRn.pt fh947 tc944 (by decide) lp20k14
                have s957 := (fh947 m 53 (fun q => absurd (((tm).symm.trans (congrArg ty q.1)).trans tc944) (by decide))).trans lp20k0
                have s958 := (fh947 m 50 (fun q => absurd (((tm).symm.trans (congrArg ty q.1)).trans tc944) (by decide))).trans lp20k1
                have s959 := (fh947 m 51 (fun q => absurd (((tm).symm.trans (congrArg ty q.1)).trans tc944) (by decide))).trans lp20k2
                have s960 := (fh947 m 52 (fun q => absurd (((tm).symm.trans (congrArg ty q.1)).trans tc944) (by decide))).trans lp20k3
                have s961 := (fh947 m 59 (fun q => absurd (((tm).symm.trans (congrArg ty q.1)).trans tc944) (by decide))).trans lp20k4
                have s962 := (fh947 m 0 (fun q => absurd (((tm).symm.trans (congrArg ty q.1)).trans tc944) (by decide))).trans lp20k5
                have s963 := (fh947 m 13 (fun q => absurd (((tm).symm.trans (congrArg ty q.1)).trans tc944) (by decide))).trans ec939
                have s964 := (fh947 m 65 (fun q => absurd (((tm).symm.trans (congrArg ty q.1)).trans tc944) (by decide))).trans ec944
                have pr965 := gEl.set (i := k) (z := jn945v0) uq tc944 (by decide) eh947 (by omega) (by omega)
                have hrw966 : gRn (k + 1).toNat ty 34 (eTb nb qu) h947 := gRn.ext (z := jn945v0) uq tc944 (by decide) fh947 eh947 (by omega) (by omega) (by omega) (eTb_o2 (s := jn19v0) (t := ((z941 * jn19v0) + 50) / 100) hf942 (by omega) (by omega) (by omega)) lp20k16
                refine gy_s 2 (pc' := 64) (L' := [some (.ref m), some (.int (zi qu)), some (.int (zi jn19v0)), some (.int ((zi k) + zi 1)), some (.int (zi (((z941 * jn19v0) + 50) / 100)))]) (S' := []) (L2 := [some (.ref m), some (.int (zi qu)), some (.int (zi jn19v0)), some (.int (zi (k + 1))), some (.int (zi (((z941 * jn19v0) + 50) / 100)))]) (S2 := []) rfl (by simp only [zi_add, zi_sub, zi_mul, zi_neg, zi_and1, zi_and7, zi_and15, zi_and31, zi_and255]) (by simp only [zi_add, zi_sub, zi_mul, zi_neg, zi_and1, zi_and7, zi_and15, zi_and31, zi_and255]) ?_
                exact gz_wk (ihlp20 h947 (k + 1) (by omega) sh947 (by omega) s957 s958 s959 s960 s961 s962 pr948 pr949 pr950 pr951 pr952 pr953 pr954 pr955 pr956 lp20k15 hrw966) (gLw.s (gLw.s (gLw.s (gLw.s (gLw.n gLw.z)))))
              by_cases hc967 : (1 : Int) ≤ ((z941 * jn19v0) + 50) / 100
              · refine gy_icT (pc' := 101) rfl (by decide) (by decide) (by omega) (by omega) hc967 ?_
                refine gz_s 2 (pc' := 106) (L' := [some (.ref m), some (.int (zi qu)), some (.int (zi jn19v0)), some (.int (zi k)), some (.int (zi (((z941 * jn19v0) + 50) / 100)))]) (S' := [.int (zi 255), .int (zi (((z941 * jn19v0) + 50) / 100)), .int (zi k), .ref c944]) rfl ?_
                by_cases hc968 : (((z941 * jn19v0) + 50) / 100 : Int) ≤ 255
                · refine gy_icT (pc' := 115) rfl (by decide) (by decide) (by omega) (by omega) hc968 ?_
                  refine gz_s 1 (pc' := 117) (L' := [some (.ref m), some (.int (zi qu)), some (.int (zi jn19v0)), some (.int (zi k)), some (.int (zi (((z941 * jn19v0) + 50) / 100)))]) (S' := [.int (zi (((z941 * jn19v0) + 50) / 100)), .int (zi k), .ref c944]) rfl ?_
                  exact jn945 (((z941 * jn19v0) + 50) / 100) (by omega)
                · refine gy_icF rfl (by decide) (by decide) (by omega) (by omega) hc968 ?_
                  refine gz_s 2 (pc' := 117) (L' := [some (.ref m), some (.int (zi qu)), some (.int (zi jn19v0)), some (.int (zi k)), some (.int (zi (((z941 * jn19v0) + 50) / 100)))]) (S' := [.int (zi 255), .int (zi k), .ref c944]) rfl ?_
                  exact jn945 255 (by omega)
              · refine gy_icF rfl (by decide) (by decide) (by omega) (by omega) hc967 ?_
                refine gz_s 2 (pc' := 117) (L' := [some (.ref m), some (.int (zi qu)), some (.int (zi jn19v0)), some (.int (zi k)), some (.int (zi (((z941 * jn19v0) + 50) / 100)))]) (S' := [.int (zi 1), .int (zi k), .ref c944]) rfl ?_
                exact jn945 1 (by omega)
        exact gz_wk (lp20 _ h2 0 (Nat.lt_succ_self _) sh2 (by omega) s13 s14 s15 s16 s17 eh2 pr3 pr5 pr6 pr7 pr8 pr9 pr10 pr11 pr12 hytz (gRn.nil (fun _ => rfl))) (gLw.s (gLw.s (gLw.s (gLw.s (gLw.n gLw.z)))))
      by_cases hc969 : (50 : Int) ≤ qu
      · refine gy_icT (pc' := 54) rfl (by decide) (by decide) (by omega) (by omega) hc969 ?_
        refine gy_s 5 (pc' := 61) (L' := [some (.ref m), some (.int (zi qu)), none, none, none]) (S' := [.int ((zi 200) - ((zi 2) * (zi qu)))]) (L2 := [some (.ref m), some (.int (zi qu)), none, none, none]) (S2 := [.int (zi (200 - (2 * qu)))]) rfl (by simp only [zi_add, zi_sub, zi_mul, zi_neg, zi_and1, zi_and7, zi_and15, zi_and31, zi_and255]) (by simp only [zi_add, zi_sub, zi_mul, zi_neg, zi_and1, zi_and7, zi_and15, zi_and31, zi_and255]) ?_
        exact jn19 (200 - (2 * qu)) (by omega)
      · refine gy_icF rfl (by decide) (by decide) (by omega) (by omega) hc969 ?_
        refine gz_s 2 (pc' := 50) (L' := [some (.ref m), some (.int (zi qu)), none, none, none]) (S' := [.int (zi qu), .int (zi 5000)]) rfl ?_
        refine gy_div rfl (by decide) (by omega) (by omega) ?_
        have hd970 := zd_f (x := 5000) (y := qu) (by omega) (by omega)
        refine gz_s 1 (pc' := 61) (L' := [some (.ref m), some (.int (zi qu)), none, none, none]) (S' := [.int (zi (5000 / qu))]) rfl ?_
        exact jn19 (5000 / qu) (by omega)
    · refine gy_ifF rfl (by decide) (by decide) (by omega) hc18 ?_
      have hno : ¬ (1 ≤ qu ∧ qu ≤ 100 ∧ ¬ cw = 0) := by omega
      have hk971 : eEx qu cw (eEn (eTb nb qu) n0 ch cw iv (eCf C (eTb nb qu) cw ch (zup cw 8)) (zup cw 8 * zup ch 8).toNat tf tt th tl) sg = sg := eEx_n hno
      have hk971_1 : (eEx qu cw (eEn (eTb nb qu) n0 ch cw iv (eCf C (eTb nb qu) cw ch (zup cw 8)) (zup cw 8 * zup ch 8).toNat tf tt th tl) sg).1 = (sg).1 := by rw [hk971]
      have hk971_21 : (eEx qu cw (eEn (eTb nb qu) n0 ch cw iv (eCf C (eTb nb qu) cw ch (zup cw 8)) (zup cw 8 * zup ch 8).toNat tf tt th tl) sg).2.1 = (sg).2.1 := by rw [hk971]
      have hk971_221 : (eEx qu cw (eEn (eTb nb qu) n0 ch cw iv (eCf C (eTb nb qu) cw ch (zup cw 8)) (zup cw 8 * zup ch 8).toNat tf tt th tl) sg).2.2.1 = (sg).2.2.1 := by rw [hk971]
      have hso972 : gSO ty (eEx qu cw (eEn (eTb nb qu) n0 ch cw iv (eCf C (eTb nb qu) cw ch (zup cw 8)) (zup cw 8 * zup ch 8).toNat tf tt th tl) sg) h2 := by rw [hk971]; exact pr4
      refine gz_s 1 (pc' := 39) (L' := [some (.ref m), some (.int (zi qu)), none, none, none]) (S' := [.int (zi 0)]) rfl ?_
      have hrw973 : gRn 64 ty 31 (eCm qu cw cm) h2 := by
        rw [eCm_n hno]; exact pr12
      exact gz_end (I := .ireturn) (len := 1) rfl (Or.inl rfl) ⟨sh2, 0, n0, w0, jn1v0, rfl, (by omega), (by omega), s13, (by omega), (by omega), s17, (by omega), (by omega), eh2, (by omega), (by omega), (by omega), (by omega), (by omega), (by omega), (by omega), pr3, hso972, hrw973⟩
  by_cases hc974 : (qu : Int) < 1
  · refine gy_icT (pc' := 12) rfl (by decide) (by decide) (by omega) (by omega) hc974 ?_
    refine gz_s 2 (pc' := 28) (L' := [some (.ref m), some (.int (zi qu)), none, none, none]) (S' := [.int (zi 1), .ref m]) rfl ?_
    exact jn1 1 (by omega)
  · refine gy_icF rfl (by decide) (by decide) (by omega) (by omega) hc974 ?_
    refine gz_s 2 (pc' := 9) (L' := [some (.ref m), some (.int (zi qu)), none, none, none]) (S' := [.int (zi 100), .int (zi qu), .ref m]) rfl ?_
    by_cases hc975 : (qu : Int) ≤ 100
    · refine gy_icT (pc' := 16) rfl (by decide) (by decide) (by omega) (by omega) hc975 ?_
      refine gz_s 1 (pc' := 17) (L' := [some (.ref m), some (.int (zi qu)), none, none, none]) (S' := [.ref m, .ref m]) rfl ?_
      refine gs_gtk rfl (by decide) rfl hS.1 tm rfl rfl ecw ?_
      by_cases hc976 : ¬ (cw : Int) = 0
      · refine gy_ifT (pc' := 27) rfl (by decide) (by decide) (by omega) hc976 ?_
        refine gz_s 1 (pc' := 28) (L' := [some (.ref m), some (.int (zi qu)), none, none, none]) (S' := [.int (zi 0), .ref m]) rfl ?_
        exact jn1 0 (by omega)
      · refine gy_ifF rfl (by decide) (by decide) (by omega) hc976 ?_
        refine gz_s 2 (pc' := 28) (L' := [some (.ref m), some (.int (zi qu)), none, none, none]) (S' := [.int (zi 2), .ref m]) rfl ?_
        exact jn1 2 (by omega)
    · refine gy_icF rfl (by decide) (by decide) (by omega) (by omega) hc975 ?_
      refine gz_s 2 (pc' := 28) (L' := [some (.ref m), some (.int (zi qu)), none, none, none]) (S' := [.int (zi 1), .ref m]) rfl ?_
      exact jn1 1 (by omega)
