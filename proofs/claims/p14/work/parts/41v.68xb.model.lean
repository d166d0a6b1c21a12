/-! ===== the encoder of the reference (by program) ===== -/
set_option maxRecDepth 20000 in
set_option maxHeartbeats 4000000 in
theorem mw_sizeOfNumber (d : Nat) {ty : Nat → Nat} {h : gH} (hJ : gJ rT 1027 ty h) (v : Int) (rv : (-8191) ≤ v ∧ v ≤ 8191) : gz gPP gGG gcn (d + 0) gt194 0 (gent [.int (zi v)] 3) [] h (fun q _ => gSs rT 1027 ty [] h q.2.2 ∧ ∃ z : Int, gfin gt194 q.1 q.2.1 = some (some (.int (zi z))) ∧ 0 ≤ z ∧ z ≤ 13 ∧ (z = eeL (eeA v))) := by
  have hS : gSs rT 1027 ty [] h h := gSs.rf hJ
  refine gz_s 1 (pc' := 1) (L' := [some (.int (zi v)), none, none]) (S' := [.int (zi v)]) rfl ?_
  by_cases hc1 : (0 : Int) ≤ v
  · refine gy_ifT (pc' := 9) rfl (by decide) (by decide) (by omega) hc1 ?_
    refine gz_s 4 (pc' := 13) (L' := [some (.int (zi v)), some (.int (zi v)), some (.int (zi 0))]) (S' := []) rfl ?_
    have lp2 : ∀ (fu : Nat) (h3 : gH) (n : Int), (14 - n).toNat < fu → gSs rT 1027 ty [] h h3 → (0 ≤ n ∧ n ≤ 13) → (n = 0 ∨ ¬ v / 2 ^ (n - 1).toNat = 0) → gz gPP gGG gcn (d + 0) gt194 13 [some (.int (zi v)), some (.int (zi v)), some (.int (zi n))] [] h3 (fun q _ => gSs rT 1027 ty [] h q.2.2 ∧ ∃ z : Int, gfin gt194 q.1 q.2.1 = some (some (.int (zi z))) ∧ 0 ≤ z ∧ z ≤ 13 ∧ (z = eeL (eeA v))) := by
      intro fu
      induction fu with
      | zero => intro h3 n hm; exact absurd hm (Nat.not_lt_zero _)
      | succ fu ihlp2 =>
        intro h3 n lp2m sh3 lp2f0 lp2f1 
        have hz13 : n = 13 → v / 2 ^ (n).toNat = 0 := fun e => by rw [e]; show v / 8192 = 0; omega
        refine gz_s 2 (pc' := 15) (L' := [some (.int (zi v)), some (.int (zi v)), some (.int (zi n))]) (S' := [.int (zi n), .int (zi v)]) rfl ?_
        refine gy_shr rfl (by decide) (by omega) (by omega) ?_
        have hx4 := zsh_b (a := v) (n := n) (by omega)
        by_cases hc5 : (v / 2 ^ (n).toNat : Int) ≤ 0
        · refine gy_ifT (pc' := 25) rfl (by decide) (by decide) (by omega) hc5 ?_
          have hA : v = eeA v := eeA_of (by omega) (by omega)
          have hz9 : v / 2 ^ (n).toNat = 0 := by have h9 := zsh_b (a := v) (n := n) (by omega); omega
          have hn9 := eeL_u (a := v) (n := n) (by omega) (by omega) ⟨by omega, by omega⟩ hz9 (by omega)
          rw [hA] at hn9
          refine gz_s 1 (pc' := 26) (L' := [some (.int (zi v)), some (.int (zi v)), some (.int (zi n))]) (S' := [.int (zi n)]) rfl ?_
          exact gz_end (I := .ireturn) (len := 1) rfl (Or.inl rfl) ⟨sh3, n, rfl, (by omega), (by omega), (by omega)⟩
        · refine gy_ifF rfl (by decide) (by decide) (by omega) hc5 ?_
          have hnn : (n + 1 - 1).toNat = (n).toNat := by omega
          have hnz : ¬ v / 2 ^ (n + 1 - 1).toNat = 0 := by rw [hnn]; omega
          refine gy_s 2 (pc' := 13) (L' := [some (.int (zi v)), some (.int (zi v)), some (.int ((zi n) + zi 1))]) (S' := []) (L2 := [some (.int (zi v)), some (.int (zi v)), some (.int (zi (n + 1)))]) (S2 := []) rfl (by simp only [zi_add, zi_sub, zi_mul, zi_neg, zi_and1, zi_and7, zi_and15, zi_and31, zi_and255]) (by simp only [zi_add, zi_sub, zi_mul, zi_neg, zi_and1, zi_and7, zi_and15, zi_and31, zi_and255]) ?_
          exact gz_wk (ihlp2 h3 (n + 1) (by omega) sh3 (by omega) (by omega) ) (gLw.s (gLw.s (gLw.s gLw.z)))
    exact gz_wk (lp2 _ h 0 (Nat.lt_succ_self _) hS (by omega) (by omega) ) (gLw.s (gLw.s (gLw.s gLw.z)))
  · refine gy_ifF rfl (by decide) (by decide) (by omega) hc1 ?_
    refine gy_s 6 (pc' := 13) (L' := [some (.int (zi v)), some (.int (-(zi v))), some (.int (zi 0))]) (S' := []) (L2 := [some (.int (zi v)), some (.int (zi (-v))), some (.int (zi 0))]) (S2 := []) rfl (by simp only [zi_add, zi_sub, zi_mul, zi_neg, zi_and1, zi_and7, zi_and15, zi_and31, zi_and255]) (by simp only [zi_add, zi_sub, zi_mul, zi_neg, zi_and1, zi_and7, zi_and15, zi_and31, zi_and255]) ?_
    have lp6 : ∀ (fu : Nat) (h7 : gH) (n : Int), (14 - n).toNat < fu → gSs rT 1027 ty [] h h7 → (0 ≤ n ∧ n ≤ 13) → (n = 0 ∨ ¬ (-v) / 2 ^ (n - 1).toNat = 0) → gz gPP gGG gcn (d + 0) gt194 13 [some (.int (zi v)), some (.int (zi (-v))), some (.int (zi n))] [] h7 (fun q _ => gSs rT 1027 ty [] h q.2.2 ∧ ∃ z : Int, gfin gt194 q.1 q.2.1 = some (some (.int (zi z))) ∧ 0 ≤ z ∧ z ≤ 13 ∧ (z = eeL (eeA v))) := by
      intro fu
      induction fu with
      | zero => intro h7 n hm; exact absurd hm (Nat.not_lt_zero _)
      | succ fu ihlp6 =>
        intro h7 n lp6m sh7 lp6f0 lp6f1 
        have hz13 : n = 13 → (-v) / 2 ^ (n).toNat = 0 := fun e => by rw [e]; show (-v) / 8192 = 0; omega
        refine gz_s 2 (pc' := 15) (L' := [some (.int (zi v)), some (.int (zi (-v))), some (.int (zi n))]) (S' := [.int (zi n), .int (zi (-v))]) rfl ?_
        refine gy_shr rfl (by decide) (by omega) (by omega) ?_
        have hx8 := zsh_b (a := -v) (n := n) (by omega)
        by_cases hc9 : ((-v) / 2 ^ (n).toNat : Int) ≤ 0
        · refine gy_ifT (pc' := 25) rfl (by decide) (by decide) (by omega) hc9 ?_
          have hA : (-v) = eeA v := eeA_of (by omega) (by omega)
          have hz9 : (-v) / 2 ^ (n).toNat = 0 := by have h9 := zsh_b (a := (-v)) (n := n) (by omega); omega
          have hn9 := eeL_u (a := (-v)) (n := n) (by omega) (by omega) ⟨by omega, by omega⟩ hz9 (by omega)
          rw [hA] at hn9
          refine gz_s 1 (pc' := 26) (L' := [some (.int (zi v)), some (.int (zi (-v))), some (.int (zi n))]) (S' := [.int (zi n)]) rfl ?_
          exact gz_end (I := .ireturn) (len := 1) rfl (Or.inl rfl) ⟨sh7, n, rfl, (by omega), (by omega), (by omega)⟩
        · refine gy_ifF rfl (by decide) (by decide) (by omega) hc9 ?_
          have hnn : (n + 1 - 1).toNat = (n).toNat := by omega
          have hnz : ¬ (-v) / 2 ^ (n + 1 - 1).toNat = 0 := by rw [hnn]; omega
          refine gy_s 2 (pc' := 13) (L' := [some (.int (zi v)), some (.int (zi (-v))), some (.int ((zi n) + zi 1))]) (S' := []) (L2 := [some (.int (zi v)), some (.int (zi (-v))), some (.int (zi (n + 1)))]) (S2 := []) rfl (by simp only [zi_add, zi_sub, zi_mul, zi_neg, zi_and1, zi_and7, zi_and15, zi_and31, zi_and255]) (by simp only [zi_add, zi_sub, zi_mul, zi_neg, zi_and1, zi_and7, zi_and15, zi_and31, zi_and255]) ?_
          exact gz_wk (ihlp6 h7 (n + 1) (by omega) sh7 (by omega) (by omega) ) (gLw.s (gLw.s (gLw.s gLw.z)))
    exact gz_wk (lp6 _ h 0 (Nat.lt_succ_self _) hS (by omega) (by omega) ) (gLw.s (gLw.s (gLw.s gLw.z)))
set_option maxRecDepth 20000 in
set_option maxHeartbeats 4000000 in
theorem mw_shifted (d : Nat) {ty : Nat → Nat} {h : gH} (hJ : gJ rT 1027 ty h) (m : Nat) (tm : ty m = 1) (p : Int) (rp : 0 ≤ p ∧ p ≤ 1023) (b : Int) (rb : 0 ≤ b ∧ b ≤ 3) (mb : Int) (emb : h.2.2.2.2 m 64 = .int (zi mb)) (rmb : 0 ≤ mb ∧ mb ≤ 16) (cf : Nat → Int) (pp0 : p < 64 * mb) (uq : gUq ty) (hyf33 : gRn (64 * mb).toNat ty 33 cf h) : gz gPP gGG gcn (d + 0) gt198 0 (gent [.ref m, .int (zi p), .int (zi b)] 4) [] h (fun q _ => gSs rT 1027 ty [] h q.2.2 ∧ ∃ z : Int, gfin gt198 q.1 q.2.1 = some (some (.int (zi z))) ∧ (-2048) ≤ z ∧ z ≤ 2048 ∧ (z = (if cf (p).toNat < 0 then -(eeA (cf (p).toNat) / 2 ^ (b).toNat) else eeA (cf (p).toNat) / 2 ^ (b).toNat))) := by
  have hS : gSs rT 1027 ty [] h h := gSs.rf hJ
  refine gz_s 1 (pc' := 1) (L' := [some (.ref m), some (.int (zi p)), some (.int (zi b)), none]) (S' := [.ref m]) rfl ?_
  refine gs_gtr rfl (by decide) rfl hS.1 tm rfl rfl rfl (fun c1 ec1 tc1 => ?_)
  refine gz_s 1 (pc' := 5) (L' := [some (.ref m), some (.int (zi p)), some (.int (zi b)), none]) (S' := [.int (zi p), .ref c1]) rfl ?_
  have hl2 : 1024 ≤ h.2.2.2.1 c1 ∧ h.2.2.2.1 c1 ≤ 1024 := gJ.rowl (G := gGG) hS.1 tc1 rfl
  refine gs_ald rfl (by decide) hS.1 tc1 rfl rfl rfl (by decide) (fun _ => rfl) (by omega) (by omega) (fun z3 ez3 az3 bz3 => ?_)
  have hf4 := gRn.at (i := p) (z := z3) hyf33 tc1 ez3 (by omega) (by omega) (by omega)
  refine gz_s 4 (pc' := 10) (L' := [some (.ref m), some (.int (zi p)), some (.int (zi b)), some (.int (zi z3))]) (S' := [.int (zi b), .int (zi 1), .int (zi z3)]) rfl ?_
  refine gy_sh1x rfl (by decide) (by omega) (fun az5 bz5 => ?_)
  refine gy_dvv rfl (by decide) (by omega) (by omega) (fun z6 az6 bz6 cz6 => ?_)
  have hsh := e_sh (v := z3) (z := z6) (b := (b).toNat) az6
  rw [← hf4] at hsh
  exact gz_end (I := .ireturn) (len := 1) rfl (Or.inl rfl) ⟨hS, z6, rfl, (by omega), (by omega), (by omega)⟩
set_option maxRecDepth 20000 in
set_option maxHeartbeats 4000000 in
theorem mn_putFirst (d : Nat) {ty : Nat → Nat} {h : gH} (hJ : gJ rT 1027 ty h) (m : Nat) (tm : ty m = 1) (v : Int) (rv : (-2048) ≤ v ∧ v ≤ 2048) (ov : Int) (rov : 0 ≤ ov ∧ ov ≤ 4) (bt : Int) (rbt : 0 ≤ bt ∧ bt ≤ 3) (ic : Int) (eic : h.2.2.2.2 m 67 = .int (zi ic)) (ric : 0 ≤ ic ∧ ic ≤ 0) (bf : Int) (ebf : h.2.2.2.2 m 74 = .int (zi bf)) (rbf : (-2048) ≤ bf ∧ bf ≤ 2048) (w0 w1 : Nat → Int) (uq : gUq ty) (hyf36 : gRn 514 ty 36 (eeJ w0 w1) h) (hywb : ewB w0 3000) : gz gPP gGG gcn (d + 2) gt193 0 (gent [.ref m, .int (zi v), .int (zi ov), .int (zi bt)] 5) [] h (fun q _ => gSs rT 1027 ty [1074, 36999] h q.2.2 ∧ ∃ l1 : Int, gfin gt193 q.1 q.2.1 = some none ∧ q.2.2.2.2.2.2 m 74 = .int (zi l1) ∧ (-2048) ≤ l1 ∧ l1 ≤ 2048 ∧ (l1 = (eeFi ecS ecP bt ov v bf w0).1) ∧ (gRn 514 ty 36 (eeJ ((eeFi ecS ecP bt ov v bf w0).2) w1) q.2.2)) := by
  have hS : gSs rT 1027 ty [1074, 36999] h h := gSs.rf hJ
  refine gz_s 1 (pc' := 1) (L' := [some (.ref m), some (.int (zi v)), some (.int (zi ov)), some (.int (zi bt)), none]) (S' := [.int (zi ov)]) rfl ?_
  by_cases hc1 : (ov : Int) ≤ 0
  · refine gy_ifT (pc' := 14) rfl (by decide) (by decide) (by omega) hc1 ?_
    refine gz_s 2 (pc' := 16) (L' := [some (.ref m), some (.int (zi v)), some (.int (zi ov)), some (.int (zi bt)), none]) (S' := [.int (zi bt), .int (zi v)]) rfl ?_
    refine gy_shr rfl (by decide) (by omega) (by omega) ?_
    have hx2 := zsh_c (a := v) (n := bt)
    refine gz_s 1 (pc' := 18) (L' := [some (.ref m), some (.int (zi v)), some (.int (zi ov)), some (.int (zi bt)), none]) (S' := [.ref m, .int (zi (v / 2 ^ (bt).toNat))]) rfl ?_
    refine gs_gtk rfl (by decide) rfl hS.1 tm rfl rfl ebf ?_
    refine gy_s 5 (pc' := 27) (L' := [some (.ref m), some (.int (zi v)), some (.int (zi ov)), some (.int (zi bt)), some (.int ((zi (v / 2 ^ (bt).toNat)) - (zi bf)))]) (S' := [.int (zi bt), .int (zi v), .ref m]) (L2 := [some (.ref m), some (.int (zi v)), some (.int (zi ov)), some (.int (zi bt)), some (.int (zi ((v / 2 ^ (bt).toNat) - bf)))]) (S2 := [.int (zi bt), .int (zi v), .ref m]) rfl (by simp only [zi_add, zi_sub, zi_mul, zi_neg, zi_and1, zi_and7, zi_and15, zi_and31, zi_and255]) (by simp only [zi_add, zi_sub, zi_mul, zi_neg, zi_and1, zi_and7, zi_and15, zi_and31, zi_and255]) ?_
    refine gy_shr rfl (by decide) (by omega) (by omega) ?_
    have hx3 := zsh_c (a := v) (n := bt)
    refine gs_put rfl (by decide) rfl hS tm rfl rfl rfl rfl (Or.inl rfl) (by decide) (by omega) (by omega) (fun h4 sh4 eh4 fh4 => ?_)
    have pr5 := gRn.pt fh4 tm (by decide) hyf36
    have s6 := (fh4 m 67 (fun q => absurd q.2 (by decide))).trans eic
    refine gz_s 3 (pc' := 35) (L' := [some (.ref m), some (.int (zi v)), some (.int (zi ov)), some (.int (zi bt)), some (.int (zi ((v / 2 ^ (bt).toNat) - bf)))]) (S' := [.int (zi ((v / 2 ^ (bt).toNat) - bf)), .int (zi 0), .ref m]) rfl ?_
    refine gz_call rfl (by decide) rfl (by decide) (by decide) (gcal_of rfl rfl rfl (Nat.le_of_ble_eq_true rfl) rfl) (mw_sizeOfNumber _ sh4.1 ((v / 2 ^ (bt).toNat) - bf) (by omega) ) (fun q7 _ wq7 => ?_)
    obtain ⟨pq7, oq7, hq7⟩ := q7
    obtain ⟨xq7, zq7, gq7, aq7, bq7, uq7_0⟩ := wq7
    refine ⟨_, gq7, ?_⟩
    show gz gPP gGG gcn _ _ 38 [some (.ref m), some (.int (zi v)), some (.int (zi ov)), some (.int (zi bt)), some (.int (zi ((v / 2 ^ (bt).toNat) - bf)))] [.int (zi zq7), .int (zi 0), .ref m] hq7 _
    have sq7 := gSs.tr sh4 xq7 (by decide)
    have s8 := (xq7.2.2.2.2.2 m 67 (by rw [tm]; decide)).trans s6
    have s9 := (xq7.2.2.2.2.2 m 74 (by rw [tm]; decide)).trans eh4
    have pr10 := gRn.fr xq7.2 (by decide) pr5
    have hlb := eeL_b (eeA ((v / 2 ^ (bt).toNat) - bf))
    have hwb11 : ewB w0 4000 := hywb.mono (by omega)
    refine gz_call rfl (by decide) rfl (by decide) (by decide) (gcal_of rfl rfl rfl (Nat.le_of_ble_eq_true rfl) (gJ.recv (G := gGG) sq7.1 tm rfl rfl)) (mn_putSymbol0 _ sq7.1 m tm 0 (by omega) zq7 (by omega) ic s8 (by omega) w0 w1 uq pr10 hwb11) (fun q12 _ wq12 => ?_)
    obtain ⟨pq12, oq12, hq12⟩ := q12
    obtain ⟨xq12, gq12, yq12_0⟩ := wq12
    refine ⟨_, gq12, ?_⟩
    show gz gPP gGG gcn _ _ 41 [some (.ref m), some (.int (zi v)), some (.int (zi ov)), some (.int (zi bt)), some (.int (zi ((v / 2 ^ (bt).toNat) - bf)))] [] hq12 _
    have sq12 := gSs.tr sq7 xq12 (by decide)
    have s13 := (xq12.2.2.2.2.2 m 67 (by rw [tm]; decide)).trans s8
    have s14 := (xq12.2.2.2.2.2 m 74 (by rw [tm]; decide)).trans s9
    refine gz_s 3 (pc' := 46) (L' := [some (.ref m), some (.int (zi v)), some (.int (zi ov)), some (.int (zi bt)), some (.int (zi ((v / 2 ^ (bt).toNat) - bf)))]) (S' := [.int (zi ((v / 2 ^ (bt).toNat) - bf)), .int (zi ((v / 2 ^ (bt).toNat) - bf)), .ref m]) rfl ?_
    refine gz_call rfl (by decide) rfl (by decide) (by decide) (gcal_of rfl rfl rfl (Nat.le_of_ble_eq_true rfl) rfl) (mw_sizeOfNumber _ sq12.1 ((v / 2 ^ (bt).toNat) - bf) (by omega) ) (fun q15 _ wq15 => ?_)
    obtain ⟨pq15, oq15, hq15⟩ := q15
    obtain ⟨xq15, zq15, gq15, aq15, bq15, uq15_0⟩ := wq15
    refine ⟨_, gq15, ?_⟩
    show gz gPP gGG gcn _ _ 49 [some (.ref m), some (.int (zi v)), some (.int (zi ov)), some (.int (zi bt)), some (.int (zi ((v / 2 ^ (bt).toNat) - bf)))] [.int (zi zq15), .int (zi ((v / 2 ^ (bt).toNat) - bf)), .ref m] hq15 _
    have sq15 := gSs.tr sq12 xq15 (by decide)
    have s16 := (xq15.2.2.2.2.2 m 67 (by rw [tm]; decide)).trans s13
    have s17 := (xq15.2.2.2.2.2 m 74 (by rw [tm]; decide)).trans s14
    have pr18 := gRn.fr xq15.2 (by decide) yq12_0
    refine gz_call rfl (by decide) rfl (by decide) (by decide) (gcal_of rfl rfl rfl (Nat.le_of_ble_eq_true rfl) (gJ.recv (G := gGG) sq15.1 tm rfl rfl)) (mn_putNumber _ sq15.1 m tm ((v / 2 ^ (bt).toNat) - bf) (by omega) zq15 (by omega) ic s16 (by omega) uq) (fun q19 _ wq19 => ?_)
    obtain ⟨pq19, oq19, hq19⟩ := q19
    obtain ⟨xq19, gq19⟩ := wq19
    refine ⟨_, gq19, ?_⟩
    show gz gPP gGG gcn _ _ 52 [some (.ref m), some (.int (zi v)), some (.int (zi ov)), some (.int (zi bt)), some (.int (zi ((v / 2 ^ (bt).toNat) - bf)))] [] hq19 _
    have sq19 := gSs.tr sq15 xq19 (by decide)
    have s20 := (xq19.2.2.2.2.2 m 67 (by rw [tm]; decide)).trans s16
    have s21 := (xq19.2.2.2.2.2 m 74 (by rw [tm]; decide)).trans s17
    have pr22 := gRn.fr xq19.2 (by decide) pr18
    have hF : eeFi ecS ecP bt ov v bf w0 = (v / 2 ^ (bt).toNat, ecS zq7 w0) := by
      rw [eeFi_n (x := v / 2 ^ (bt).toNat) (s := zq7) (V := if ((v / 2 ^ (bt).toNat) - bf) < 0 then ((v / 2 ^ (bt).toNat) - bf) - 1 else ((v / 2 ^ (bt).toNat) - bf)) (by omega) rfl (by omega) rfl]; rfl
    have hk23 : (eeFi ecS ecP bt ov v bf w0).2 = ecS zq7 w0 := by rw [hF]
    have hrw24 : gRn 514 ty 36 (eeJ ((eeFi ecS ecP bt ov v bf w0).2) w1) hq19 := by rw [hk23]; exact pr22
    have hF1 : (eeFi ecS ecP bt ov v bf w0).1 = v / 2 ^ (bt).toNat := by rw [hF]
    exact gz_end (I := .return_) (len := 1) rfl (Or.inl rfl) ⟨sq19, v / 2 ^ (bt).toNat, rfl, s21, (by omega), (by omega), (by omega), hrw24⟩
  · refine gy_ifF rfl (by decide) (by decide) (by omega) hc1 ?_
    refine gz_s 3 (pc' := 7) (L' := [some (.ref m), some (.int (zi v)), some (.int (zi ov)), some (.int (zi bt)), none]) (S' := [.int (zi bt), .int (zi v), .ref m]) rfl ?_
    refine gy_shr rfl (by decide) (by omega) (by omega) ?_
    have hx25 := zsh_c (a := v) (n := bt)
    refine gy_s 2 (pc' := 10) (L' := [some (.ref m), some (.int (zi v)), some (.int (zi ov)), some (.int (zi bt)), none]) (S' := [.int ((zi (v / 2 ^ (bt).toNat)) &&& (zi 1)), .ref m]) (L2 := [some (.ref m), some (.int (zi v)), some (.int (zi ov)), some (.int (zi bt)), none]) (S2 := [.int (zi ((v / 2 ^ (bt).toNat) % 2)), .ref m]) rfl (by simp only [zi_add, zi_sub, zi_mul, zi_neg, zi_and1, zi_and7, zi_and15, zi_and31, zi_and255]) (by simp only [zi_add, zi_sub, zi_mul, zi_neg, zi_and1, zi_and7, zi_and15, zi_and31, zi_and255]) ?_
    refine gz_call rfl (by decide) rfl (by decide) (by decide) (gcal_of rfl rfl rfl (Nat.le_of_ble_eq_true rfl) (gJ.recv (G := gGG) hS.1 tm rfl rfl)) (mn_putBit _ hS.1 m tm ((v / 2 ^ (bt).toNat) % 2) (by omega) ic eic (by omega) uq) (fun q26 _ wq26 => ?_)
    obtain ⟨pq26, oq26, hq26⟩ := q26
    obtain ⟨xq26, gq26⟩ := wq26
    refine ⟨_, gq26, ?_⟩
    show gz gPP gGG gcn _ _ 13 [some (.ref m), some (.int (zi v)), some (.int (zi ov)), some (.int (zi bt)), none] [] hq26 _
    have sq26 := gSs.tr hS xq26 (by decide)
    have s27 := (xq26.2.2.2.2.2 m 67 (by rw [tm]; decide)).trans eic
    have s28 := (xq26.2.2.2.2.2 m 74 (by rw [tm]; decide)).trans ebf
    have pr29 := gRn.fr xq26.2 (by decide) hyf36
    have hF : eeFi ecS ecP bt ov v bf w0 = (bf, w0) := eeFi_p (by omega)
    have hk30 : (eeFi ecS ecP bt ov v bf w0).2 = w0 := by rw [hF]
    have hrw31 : gRn 514 ty 36 (eeJ ((eeFi ecS ecP bt ov v bf w0).2) w1) hq26 := by rw [hk30]; exact pr29
    have hF1 : (eeFi ecS ecP bt ov v bf w0).1 = bf := by rw [hF]
    exact gz_end (I := .return_) (len := 1) rfl (Or.inl rfl) ⟨sq26, bf, rfl, s28, (by omega), (by omega), (by omega), hrw31⟩
set_option maxRecDepth 20000 in
set_option maxHeartbeats 4000000 in
theorem mw_putFirst (d : Nat) {ty : Nat → Nat} {h : gH} (hJ : gJ rT 1027 ty h) (m : Nat) (tm : ty m = 1) (v : Int) (rv : (-2048) ≤ v ∧ v ≤ 2048) (ov : Int) (rov : 0 ≤ ov ∧ ov ≤ 4) (bt : Int) (rbt : 0 ≤ bt ∧ bt ≤ 3) (w0 : Int) (ew0 : h.2.2.2.2 m 59 = .int (zi w0)) (rw0 : 0 ≤ w0 ∧ w0 ≤ 60000) (u0 : Int) (eu0 : h.2.2.2.2 m 61 = .int (zi u0)) (ru0 : 0 ≤ u0 ∧ u0 ≤ 127) (b0 : Int) (eb0 : h.2.2.2.2 m 62 = .int (zi b0)) (rb0 : 0 ≤ b0 ∧ b0 ≤ 7) (ic : Int) (eic : h.2.2.2.2 m 67 = .int (zi ic)) (ric : 1 ≤ ic ∧ ic ≤ 1) (bf : Int) (ebf : h.2.2.2.2 m 74 = .int (zi bf)) (rbf : (-2048) ≤ bf ∧ bf ≤ 2048) (sg : gWt) (ek0 : Nat → Int × Int) (pp0 : w0 = sg.1) (pp1 : u0 = sg.2.1) (pp2 : b0 = sg.2.2.1) (pp3 : 4 * w0 + b0 + 35 ≤ 239900) (uq : gUq ty) (hyso : gSO ty sg h) (hyok : eeOk sg) (hytk0 : gTk (ov = 0) 0 ty ek0 h) : gz gPP gGG gcn (d + 3) gt193 0 (gent [.ref m, .int (zi v), .int (zi ov), .int (zi bt)] 5) [] h (fun q _ => gSs rT 1027 ty [1059, 1061, 1062, 1074, 32999] h q.2.2 ∧ ∃ w1 u1 b1 l1 : Int, gfin gt193 q.1 q.2.1 = some none ∧ q.2.2.2.2.2.2 m 59 = .int (zi w1) ∧ 0 ≤ w1 ∧ w1 ≤ 60000 ∧ q.2.2.2.2.2.2 m 61 = .int (zi u1) ∧ 0 ≤ u1 ∧ u1 ≤ 127 ∧ q.2.2.2.2.2.2 m 62 = .int (zi b1) ∧ 0 ≤ b1 ∧ b1 ≤ 7 ∧ q.2.2.2.2.2.2 m 74 = .int (zi l1) ∧ (-2048) ≤ l1 ∧ l1 ≤ 2048 ∧ (w1 = ((eeFi (ewS ek0) eeN bt ov v bf sg).2).1) ∧ (u1 = ((eeFi (ewS ek0) eeN bt ov v bf sg).2).2.1) ∧ (b1 = ((eeFi (ewS ek0) eeN bt ov v bf sg).2).2.2.1) ∧ (4 * w1 + b1 ≤ 4 * w0 + b0 + 35) ∧ (w0 ≤ w1) ∧ (l1 = (eeFi (ewS ek0) eeN bt ov v bf sg).1) ∧ (gSO ty ((eeFi (ewS ek0) eeN bt ov v bf sg).2) q.2.2) ∧ (eeOk ((eeFi (ewS ek0) eeN bt ov v bf sg).2))) := by
  have hS : gSs rT 1027 ty [1059, 1061, 1062, 1074, 32999] h h := gSs.rf hJ
  refine gz_s 1 (pc' := 1) (L' := [some (.ref m), some (.int (zi v)), some (.int (zi ov)), some (.int (zi bt)), none]) (S' := [.int (zi ov)]) rfl ?_
  by_cases hc1 : (ov : Int) ≤ 0
  · refine gy_ifT (pc' := 14) rfl (by decide) (by decide) (by omega) hc1 ?_
    refine gz_s 2 (pc' := 16) (L' := [some (.ref m), some (.int (zi v)), some (.int (zi ov)), some (.int (zi bt)), none]) (S' := [.int (zi bt), .int (zi v)]) rfl ?_
    refine gy_shr rfl (by decide) (by omega) (by omega) ?_
    have hx2 := zsh_c (a := v) (n := bt)
    refine gz_s 1 (pc' := 18) (L' := [some (.ref m), some (.int (zi v)), some (.int (zi ov)), some (.int (zi bt)), none]) (S' := [.ref m, .int (zi (v / 2 ^ (bt).toNat))]) rfl ?_
    refine gs_gtk rfl (by decide) rfl hS.1 tm rfl rfl ebf ?_
    refine gy_s 5 (pc' := 27) (L' := [some (.ref m), some (.int (zi v)), some (.int (zi ov)), some (.int (zi bt)), some (.int ((zi (v / 2 ^ (bt).toNat)) - (zi bf)))]) (S' := [.int (zi bt), .int (zi v), .ref m]) (L2 := [some (.ref m), some (.int (zi v)), some (.int (zi ov)), some (.int (zi bt)), some (.int (zi ((v / 2 ^ (bt).toNat) - bf)))]) (S2 := [.int (zi bt), .int (zi v), .ref m]) rfl (by simp only [zi_add, zi_sub, zi_mul, zi_neg, zi_and1, zi_and7, zi_and15, zi_and31, zi_and255]) (by simp only [zi_add, zi_sub, zi_mul, zi_neg, zi_and1, zi_and7, zi_and15, zi_and31, zi_and255]) ?_
    refine gy_shr rfl (by decide) (by omega) (by omega) ?_
    have hx3 := zsh_c (a := v) (n := bt)
    refine gs_put rfl (by decide) rfl hS tm rfl rfl rfl rfl (Or.inl rfl) (by decide) (by omega) (by omega) (fun h4 sh4 eh4 fh4 => ?_)
    have pr5 := gSO.pt fh4 tm (by decide) hyso
    have pr6 := gTk.pt fh4 tm (by decide) (by decide) hytk0
    have s7 := (fh4 m 59 (fun q => absurd q.2 (by decide))).trans ew0
    have s8 := (fh4 m 61 (fun q => absurd q.2 (by decide))).trans eu0
    have s9 := (fh4 m 62 (fun q => absurd q.2 (by decide))).trans eb0
    have s10 := (fh4 m 67 (fun q => absurd q.2 (by decide))).trans eic
    refine gz_s 3 (pc' := 35) (L' := [some (.ref m), some (.int (zi v)), some (.int (zi ov)), some (.int (zi bt)), some (.int (zi ((v / 2 ^ (bt).toNat) - bf)))]) (S' := [.int (zi ((v / 2 ^ (bt).toNat) - bf)), .int (zi 0), .ref m]) rfl ?_
    refine gz_call rfl (by decide) rfl (by decide) (by decide) (gcal_of rfl rfl rfl (Nat.le_of_ble_eq_true rfl) rfl) (mw_sizeOfNumber _ sh4.1 ((v / 2 ^ (bt).toNat) - bf) (by omega) ) (fun q11 _ wq11 => ?_)
    obtain ⟨pq11, oq11, hq11⟩ := q11
    obtain ⟨xq11, zq11, gq11, aq11, bq11, uq11_0⟩ := wq11
    refine ⟨_, gq11, ?_⟩
    show gz gPP gGG gcn _ _ 38 [some (.ref m), some (.int (zi v)), some (.int (zi ov)), some (.int (zi bt)), some (.int (zi ((v / 2 ^ (bt).toNat) - bf)))] [.int (zi zq11), .int (zi 0), .ref m] hq11 _
    have sq11 := gSs.tr sh4 xq11 (by decide)
    have s12 := (xq11.2.2.2.2.2 m 59 (by rw [tm]; decide)).trans s7
    have s13 := (xq11.2.2.2.2.2 m 61 (by rw [tm]; decide)).trans s8
    have s14 := (xq11.2.2.2.2.2 m 62 (by rw [tm]; decide)).trans s9
    have s15 := (xq11.2.2.2.2.2 m 67 (by rw [tm]; decide)).trans s10
    have s16 := (xq11.2.2.2.2.2 m 74 (by rw [tm]; decide)).trans eh4
    have pr17 := gSO.fr xq11.2 (by decide) pr5
    have pr18 := gTk.fr xq11.2 (by decide) (by decide) pr6
    have hlb := eeL_b (eeA ((v / 2 ^ (bt).toNat) - bf))
    have htk19 := gTk.imp (Q := True) (fun _ => by omega) pr18
    refine gz_call rfl (by decide) rfl (by decide) (by decide) (gcal_of rfl rfl rfl (Nat.le_of_ble_eq_true rfl) (gJ.recv (G := gGG) sq11.1 tm rfl rfl)) (mw_putSymbol0 _ sq11.1 m tm 0 (by omega) zq11 (by omega) w0 s12 (by omega) u0 s13 (by omega) b0 s14 (by omega) ic s15 (by omega) sg ek0 (by omega) (by omega) (by omega) (by omega) uq pr17 hyok htk19) (fun q20 _ wq20 => ?_)
    obtain ⟨pq20, oq20, hq20⟩ := q20
    obtain ⟨xq20, fq20_0, fq20_1, fq20_2, gq20, efq20_0, afq20_0, bfq20_0, efq20_1, afq20_1, bfq20_1, efq20_2, afq20_2, bfq20_2, uq20_0, uq20_1, uq20_2, uq20_3, uq20_4, yq20_0, yq20_1⟩ := wq20
    refine ⟨_, gq20, ?_⟩
    show gz gPP gGG gcn _ _ 41 [some (.ref m), some (.int (zi v)), some (.int (zi ov)), some (.int (zi bt)), some (.int (zi ((v / 2 ^ (bt).toNat) - bf)))] [] hq20 _
    have sq20 := gSs.tr sq11 xq20 (by decide)
    have s21 := (xq20.2.2.2.2.2 m 67 (by rw [tm]; decide)).trans s15
    have s22 := (xq20.2.2.2.2.2 m 74 (by rw [tm]; decide)).trans s16
    have pr23 := gTk.fr xq20.2 (by decide) (by decide) htk19
    refine gz_s 3 (pc' := 46) (L' := [some (.ref m), some (.int (zi v)), some (.int (zi ov)), some (.int (zi bt)), some (.int (zi ((v / 2 ^ (bt).toNat) - bf)))]) (S' := [.int (zi ((v / 2 ^ (bt).toNat) - bf)), .int (zi ((v / 2 ^ (bt).toNat) - bf)), .ref m]) rfl ?_
    refine gz_call rfl (by decide) rfl (by decide) (by decide) (gcal_of rfl rfl rfl (Nat.le_of_ble_eq_true rfl) rfl) (mw_sizeOfNumber _ sq20.1 ((v / 2 ^ (bt).toNat) - bf) (by omega) ) (fun q24 _ wq24 => ?_)
    obtain ⟨pq24, oq24, hq24⟩ := q24
    obtain ⟨xq24, zq24, gq24, aq24, bq24, uq24_0⟩ := wq24
    refine ⟨_, gq24, ?_⟩
    show gz gPP gGG gcn _ _ 49 [some (.ref m), some (.int (zi v)), some (.int (zi ov)), some (.int (zi bt)), some (.int (zi ((v / 2 ^ (bt).toNat) - bf)))] [.int (zi zq24), .int (zi ((v / 2 ^ (bt).toNat) - bf)), .ref m] hq24 _
    have sq24 := gSs.tr sq20 xq24 (by decide)
    have s25 := (xq24.2.2.2.2.2 m 67 (by rw [tm]; decide)).trans s21
    have s26 := (xq24.2.2.2.2.2 m 74 (by rw [tm]; decide)).trans s22
    have s27 := (xq24.2.2.2.2.2 m 59 (by rw [tm]; decide)).trans efq20_0
    have s28 := (xq24.2.2.2.2.2 m 61 (by rw [tm]; decide)).trans efq20_1
    have s29 := (xq24.2.2.2.2.2 m 62 (by rw [tm]; decide)).trans efq20_2
    have pr30 := gTk.fr xq24.2 (by decide) (by decide) pr23
    have pr31 := gSO.fr xq24.2 (by decide) yq20_0
    refine gz_call rfl (by decide) rfl (by decide) (by decide) (gcal_of rfl rfl rfl (Nat.le_of_ble_eq_true rfl) (gJ.recv (G := gGG) sq24.1 tm rfl rfl)) (mw_putNumber _ sq24.1 m tm ((v / 2 ^ (bt).toNat) - bf) (by omega) zq24 (by omega) fq20_0 s27 (by omega) fq20_1 s28 (by omega) fq20_2 s29 (by omega) ic s25 (by omega) (ewS ek0 zq11 sg) (by omega) (by omega) (by omega) (by omega) uq pr31 yq20_1) (fun q32 _ wq32 => ?_)
    obtain ⟨pq32, oq32, hq32⟩ := q32
    obtain ⟨xq32, fq32_0, fq32_1, fq32_2, gq32, efq32_0, afq32_0, bfq32_0, efq32_1, afq32_1, bfq32_1, efq32_2, afq32_2, bfq32_2, uq32_0, uq32_1, uq32_2, uq32_3, uq32_4, yq32_0, yq32_1⟩ := wq32
    refine ⟨_, gq32, ?_⟩
    show gz gPP gGG gcn _ _ 52 [some (.ref m), some (.int (zi v)), some (.int (zi ov)), some (.int (zi bt)), some (.int (zi ((v / 2 ^ (bt).toNat) - bf)))] [] hq32 _
    have sq32 := gSs.tr sq24 xq32 (by decide)
    have s33 := (xq32.2.2.2.2.2 m 67 (by rw [tm]; decide)).trans s25
    have s34 := (xq32.2.2.2.2.2 m 74 (by rw [tm]; decide)).trans s26
    have pr35 := gTk.fr xq32.2 (by decide) (by decide) pr30
    have hF : eeFi (ewS ek0) eeN bt ov v bf sg = (v / 2 ^ (bt).toNat, eeN (if ((v / 2 ^ (bt).toNat) - bf) < 0 then ((v / 2 ^ (bt).toNat) - bf) - 1 else ((v / 2 ^ (bt).toNat) - bf)) zq24.toNat (ewS ek0 zq11 sg)) := by
      rw [eeFi_n (x := v / 2 ^ (bt).toNat) (s := zq11) (V := if ((v / 2 ^ (bt).toNat) - bf) < 0 then ((v / 2 ^ (bt).toNat) - bf) - 1 else ((v / 2 ^ (bt).toNat) - bf)) (by omega) rfl (by omega) rfl]; rw [show zq24 = zq11 by omega]
    have hk36 : (eeFi (ewS ek0) eeN bt ov v bf sg).2 = eeN (if ((v / 2 ^ (bt).toNat) - bf) < 0 then ((v / 2 ^ (bt).toNat) - bf) - 1 else ((v / 2 ^ (bt).toNat) - bf)) zq24.toNat (ewS ek0 zq11 sg) := by rw [hF]
    have hk36_1 : ((eeFi (ewS ek0) eeN bt ov v bf sg).2).1 = (eeN (if ((v / 2 ^ (bt).toNat) - bf) < 0 then ((v / 2 ^ (bt).toNat) - bf) - 1 else ((v / 2 ^ (bt).toNat) - bf)) zq24.toNat (ewS ek0 zq11 sg)).1 := by rw [hk36]
    have hk36_21 : ((eeFi (ewS ek0) eeN bt ov v bf sg).2).2.1 = (eeN (if ((v / 2 ^ (bt).toNat) - bf) < 0 then ((v / 2 ^ (bt).toNat) - bf) - 1 else ((v / 2 ^ (bt).toNat) - bf)) zq24.toNat (ewS ek0 zq11 sg)).2.1 := by rw [hk36]
    have hk36_221 : ((eeFi (ewS ek0) eeN bt ov v bf sg).2).2.2.1 = (eeN (if ((v / 2 ^ (bt).toNat) - bf) < 0 then ((v / 2 ^ (bt).toNat) - bf) - 1 else ((v / 2 ^ (bt).toNat) - bf)) zq24.toNat (ewS ek0 zq11 sg)).2.2.1 := by rw [hk36]
    have hso37 : gSO ty ((eeFi (ewS ek0) eeN bt ov v bf sg).2) hq32 := by rw [hk36]; exact yq32_0
    have hok38 : eeOk ((eeFi (ewS ek0) eeN bt ov v bf sg).2) := by rw [hk36]; exact yq32_1
    have hok38c := hok38.cur
    have hF1 : (eeFi (ewS ek0) eeN bt ov v bf sg).1 = v / 2 ^ (bt).toNat := by rw [hF]
    exact gz_end (I := .return_) (len := 1) rfl (Or.inl rfl) ⟨sq32, fq32_0, fq32_1, fq32_2, v / 2 ^ (bt).toNat, rfl, efq32_0, (by omega), (by omega), efq32_1, (by omega), (by omega), efq32_2, (by omega), (by omega), s34, (by omega), (by omega), (by omega), (by omega), (by omega), (by omega), (by omega), (by omega), hso37, hok38⟩
  · refine gy_ifF rfl (by decide) (by decide) (by omega) hc1 ?_
    refine gz_s 3 (pc' := 7) (L' := [some (.ref m), some (.int (zi v)), some (.int (zi ov)), some (.int (zi bt)), none]) (S' := [.int (zi bt), .int (zi v), .ref m]) rfl ?_
    refine gy_shr rfl (by decide) (by omega) (by omega) ?_
    have hx39 := zsh_c (a := v) (n := bt)
    refine gy_s 2 (pc' := 10) (L' := [some (.ref m), some (.int (zi v)), some (.int (zi ov)), some (.int (zi bt)), none]) (S' := [.int ((zi (v / 2 ^ (bt).toNat)) &&& (zi 1)), .ref m]) (L2 := [some (.ref m), some (.int (zi v)), some (.int (zi ov)), some (.int (zi bt)), none]) (S2 := [.int (zi ((v / 2 ^ (bt).toNat) % 2)), .ref m]) rfl (by simp only [zi_add, zi_sub, zi_mul, zi_neg, zi_and1, zi_and7, zi_and15, zi_and31, zi_and255]) (by simp only [zi_add, zi_sub, zi_mul, zi_neg, zi_and1, zi_and7, zi_and15, zi_and31, zi_and255]) ?_
    refine gz_call rfl (by decide) rfl (by decide) (by decide) (gcal_of rfl rfl rfl (Nat.le_of_ble_eq_true rfl) (gJ.recv (G := gGG) hS.1 tm rfl rfl)) (mw_putBit _ hS.1 m tm ((v / 2 ^ (bt).toNat) % 2) (by omega) w0 ew0 (by omega) u0 eu0 (by omega) b0 eb0 (by omega) ic eic (by omega) sg (by omega) (by omega) (by omega) (by omega) uq hyso hyok) (fun q40 _ wq40 => ?_)
    obtain ⟨pq40, oq40, hq40⟩ := q40
    obtain ⟨xq40, fq40_0, fq40_1, fq40_2, gq40, efq40_0, afq40_0, bfq40_0, efq40_1, afq40_1, bfq40_1, efq40_2, afq40_2, bfq40_2, uq40_0, uq40_1, uq40_2, uq40_3, uq40_4, yq40_0, yq40_1⟩ := wq40
    refine ⟨_, gq40, ?_⟩
    show gz gPP gGG gcn _ _ 13 [some (.ref m), some (.int (zi v)), some (.int (zi ov)), some (.int (zi bt)), none] [] hq40 _
    have sq40 := gSs.tr hS xq40 (by decide)
    have s41 := (xq40.2.2.2.2.2 m 67 (by rw [tm]; decide)).trans eic
    have s42 := (xq40.2.2.2.2.2 m 74 (by rw [tm]; decide)).trans ebf
    have pr43 := gTk.fr xq40.2 (by decide) (by decide) hytk0
    have hF : eeFi (ewS ek0) eeN bt ov v bf sg = (bf, eeb sg ((v / 2 ^ (bt).toNat) % 2)) := by rw [eeFi_p (by omega)]; rw [show eeN (v / 2 ^ bt.toNat % 2) 1 sg = eeb sg (v / 2 ^ bt.toNat % 2) from eeN_1 (by omega)]
    have hk44 : (eeFi (ewS ek0) eeN bt ov v bf sg).2 = eeb sg ((v / 2 ^ (bt).toNat) % 2) := by rw [hF]
    have hk44_1 : ((eeFi (ewS ek0) eeN bt ov v bf sg).2).1 = (eeb sg ((v / 2 ^ (bt).toNat) % 2)).1 := by rw [hk44]
    have hk44_21 : ((eeFi (ewS ek0) eeN bt ov v bf sg).2).2.1 = (eeb sg ((v / 2 ^ (bt).toNat) % 2)).2.1 := by rw [hk44]
    have hk44_221 : ((eeFi (ewS ek0) eeN bt ov v bf sg).2).2.2.1 = (eeb sg ((v / 2 ^ (bt).toNat) % 2)).2.2.1 := by rw [hk44]
    have hso45 : gSO ty ((eeFi (ewS ek0) eeN bt ov v bf sg).2) hq40 := by rw [hk44]; exact yq40_0
    have hok46 : eeOk ((eeFi (ewS ek0) eeN bt ov v bf sg).2) := by rw [hk44]; exact yq40_1
    have hok46c := hok46.cur
    have hF1 : (eeFi (ewS ek0) eeN bt ov v bf sg).1 = bf := by rw [hF]
    exact gz_end (I := .return_) (len := 1) rfl (Or.inl rfl) ⟨sq40, fq40_0, fq40_1, fq40_2, bf, rfl, efq40_0, (by omega), (by omega), efq40_1, (by omega), (by omega), efq40_2, (by omega), (by omega), s42, (by omega), (by omega), (by omega), (by omega), (by omega), (by omega), (by omega), (by omega), hso45, hok46⟩
set_option maxRecDepth 20000 in
set_option maxHeartbeats 4000000 in
theorem mn_putOthers (d : Nat) {ty : Nat → Nat} {h : gH} (hJ : gJ rT 1027 ty h) (m : Nat) (tm : ty m = 1) (p : Int) (rp : 0 ≤ p ∧ p ≤ 960) (a : Int) (ra : 1 ≤ a ∧ a ≤ 63) (b : Int) (rb : 0 ≤ b ∧ b ≤ 63) (bt : Int) (rbt : 0 ≤ bt ∧ bt ≤ 3) (ic : Int) (eic : h.2.2.2.2 m 67 = .int (zi ic)) (ric : 0 ≤ ic ∧ ic ≤ 0) (mb : Int) (emb : h.2.2.2.2 m 64 = .int (zi mb)) (rmb : 0 ≤ mb ∧ mb ≤ 16) (w0 w1 cf : Nat → Int) (pp0 : p + 64 ≤ 64 * mb) (pp1 : a ≤ b + 1) (uq : gUq ty) (hyf36 : gRn 514 ty 36 (eeJ w0 w1) h) (hywb : ewB w1 3000) (hyf33 : gRn (64 * mb).toNat ty 33 cf h) : gz gPP gGG gcn (d + 3) gt197 0 (gent [.ref m, .int (zi p), .int (zi a), .int (zi b), .int (zi bt)] 9) [] h (fun q _ => gSs rT 1027 ty [36999] h q.2.2 ∧ gfin gt197 q.1 q.2.1 = some none ∧ (gRn 514 ty 36 (eeJ w0 (eeOt ecS ecP bt cf (p + a).toNat (b - a + 1).toNat w1)) q.2.2)) := by
  have hS : gSs rT 1027 ty [36999] h h := gSs.rf hJ
  refine gz_s 4 (pc' := 6) (L' := [some (.ref m), some (.int (zi p)), some (.int (zi a)), some (.int (zi b)), some (.int (zi bt)), some (.int (zi 0)), some (.int (zi a)), none, none]) (S' := []) rfl ?_
  have hk2 : (eeO ecS ecP bt cf (p + a).toNat w1 (a - a).toNat).2 = w1 := by rw [show (a - a).toNat = 0 by omega]; rfl
  have hrw3 : gRn 514 ty 36 (eeJ w0 ((eeO ecS ecP bt cf (p + a).toNat w1 (a - a).toNat).2)) h := by rw [hk2]; exact hyf36
  have lp1 : ∀ (fu : Nat) (h4 : gH) (zr : Int) (k : Int), (65 - k).toNat < fu → gSs rT 1027 ty [36999] h h4 → (0 ≤ zr ∧ zr ≤ 63) → (1 ≤ k ∧ k ≤ 64) → (zr = (eeO ecS ecP bt cf (p + a).toNat w1 (k - a).toNat).1) → (a ≤ k) → (k ≤ b + 1) → (zr ≤ k - a) → h4.2.2.2.2 m 67 = .int (zi ic) → h4.2.2.2.2 m 64 = .int (zi mb) → gRn (64 * mb).toNat ty 33 cf h4 → gRn 514 ty 36 (eeJ w0 ((eeO ecS ecP bt cf (p + a).toNat w1 (k - a).toNat).2)) h4 → gz gPP gGG gcn (d + 3) gt197 6 [some (.ref m), some (.int (zi p)), some (.int (zi a)), some (.int (zi b)), some (.int (zi bt)), some (.int (zi zr)), some (.int (zi k)), none, none] [] h4 (fun q _ => gSs rT 1027 ty [36999] h q.2.2 ∧ gfin gt197 q.1 q.2.1 = some none ∧ (gRn 514 ty 36 (eeJ w0 (eeOt ecS ecP bt cf (p + a).toNat (b - a + 1).toNat w1)) q.2.2)) := by
    intro fu
    induction fu with
    | zero => intro h4 zr k hm; exact absurd hm (Nat.not_lt_zero _)
    | succ fu ihlp1 =>
      intro h4 zr k lp1m sh4 lp1f0 lp1f1 lp1f2 lp1f3 lp1f4 lp1f5 lp1k0 lp1k1 lp1k2 lp1k3
      refine gz_s 2 (pc' := 9) (L' := [some (.ref m), some (.int (zi p)), some (.int (zi a)), some (.int (zi b)), some (.int (zi bt)), some (.int (zi zr)), some (.int (zi k)), none, none]) (S' := [.int (zi b), .int (zi k)]) rfl ?_
      by_cases hc5 : (b : Int) < k
      · refine gy_icT (pc' := 97) rfl (by decide) (by decide) (by omega) (by omega) hc5 ?_
        refine gz_s 1 (pc' := 99) (L' := [some (.ref m), some (.int (zi p)), some (.int (zi a)), some (.int (zi b)), some (.int (zi bt)), some (.int (zi zr)), some (.int (zi k)), none, none]) (S' := [.int (zi zr)]) rfl ?_
        by_cases hc6 : (zr : Int) ≤ 0
        · refine gy_ifT (pc' := 108) rfl (by decide) (by decide) (by omega) hc6 ?_
          have hkt : (k - a).toNat = (b - a + 1).toNat := by omega
          have hr9 : (eeO ecS ecP bt cf (p + a).toNat w1 (k - a).toNat).1 = zr := by omega
          rw [hkt] at hr9
          have hk7 : eeOt ecS ecP bt cf (p + a).toNat (b - a + 1).toNat w1 = (eeO ecS ecP bt cf (p + a).toNat w1 (k - a).toNat).2 := by rw [hkt]; exact eeOt_n (by omega)
          have hrw8 : gRn 514 ty 36 (eeJ w0 (eeOt ecS ecP bt cf (p + a).toNat (b - a + 1).toNat w1)) h4 := by rw [hk7]; exact lp1k3
          exact gz_end (I := .return_) (len := 1) rfl (Or.inl rfl) ⟨sh4, rfl, hrw8⟩
        · refine gy_ifF rfl (by decide) (by decide) (by omega) hc6 ?_
          have hwb9 : ewB ((eeO ecS ecP bt cf (p + a).toNat w1 (k - a).toNat).2) 4000 := (ewB.O (lw := bt) (cf := cf) (b := (p + a).toNat) hywb (k - a).toNat).1.mono (by omega)
          refine gz_s 3 (pc' := 105) (L' := [some (.ref m), some (.int (zi p)), some (.int (zi a)), some (.int (zi b)), some (.int (zi bt)), some (.int (zi zr)), some (.int (zi k)), none, none]) (S' := [.int (zi 0), .int (zi 1), .ref m]) rfl ?_
          refine gz_call rfl (by decide) rfl (by decide) (by decide) (gcal_of rfl rfl rfl (Nat.le_of_ble_eq_true rfl) (gJ.recv (G := gGG) sh4.1 tm rfl rfl)) (mn_putSymbol1 _ sh4.1 m tm 1 (by omega) 0 (by omega) ic lp1k0 (by omega) w0 ((eeO ecS ecP bt cf (p + a).toNat w1 (k - a).toNat).2) uq lp1k3 hwb9) (fun q10 _ wq10 => ?_)
          obtain ⟨pq10, oq10, hq10⟩ := q10
          obtain ⟨xq10, gq10, yq10_0⟩ := wq10
          refine ⟨_, gq10, ?_⟩
          show gz gPP gGG gcn _ _ 108 [some (.ref m), some (.int (zi p)), some (.int (zi a)), some (.int (zi b)), some (.int (zi bt)), some (.int (zi zr)), some (.int (zi k)), none, none] [] hq10 _
          have sq10 := gSs.tr sh4 xq10 (by decide)
          have s11 := (xq10.2.2.2.2.2 m 67 (by rw [tm]; decide)).trans lp1k0
          have s12 := (xq10.2.2.2.2.2 m 64 (by rw [tm]; decide)).trans lp1k1
          have pr13 := gRn.fr xq10.2 (by decide) lp1k2
          have hkt : (k - a).toNat = (b - a + 1).toNat := by omega
          have hr9 : (eeO ecS ecP bt cf (p + a).toNat w1 (k - a).toNat).1 = zr := by omega
          rw [hkt] at hr9
          have hk14 : eeOt ecS ecP bt cf (p + a).toNat (b - a + 1).toNat w1 = ecS 0 ((eeO ecS ecP bt cf (p + a).toNat w1 (k - a).toNat).2) := by rw [hkt]; exact eeOt_p (by omega)
          have hrw15 : gRn 514 ty 36 (eeJ w0 (eeOt ecS ecP bt cf (p + a).toNat (b - a + 1).toNat w1)) hq10 := by rw [hk14]; exact yq10_0
          exact gz_end (I := .return_) (len := 1) rfl (Or.inl rfl) ⟨sq10, rfl, hrw15⟩
      · refine gy_icF rfl (by decide) (by decide) (by omega) (by omega) hc5 ?_
        refine gy_s 5 (pc' := 19) (L' := [some (.ref m), some (.int (zi p)), some (.int (zi a)), some (.int (zi b)), some (.int (zi bt)), some (.int (zi zr)), some (.int (zi k)), none, none]) (S' := [.int (zi bt), .int ((zi p) + (zi k)), .ref m]) (L2 := [some (.ref m), some (.int (zi p)), some (.int (zi a)), some (.int (zi b)), some (.int (zi bt)), some (.int (zi zr)), some (.int (zi k)), none, none]) (S2 := [.int (zi bt), .int (zi (p + k)), .ref m]) rfl (by simp only [zi_add, zi_sub, zi_mul, zi_neg, zi_and1, zi_and7, zi_and15, zi_and31, zi_and255]) (by simp only [zi_add, zi_sub, zi_mul, zi_neg, zi_and1, zi_and7, zi_and15, zi_and31, zi_and255]) ?_
        refine gz_call rfl (by decide) rfl (by decide) (by decide) (gcal_of rfl rfl rfl (Nat.le_of_ble_eq_true rfl) (gJ.recv (G := gGG) sh4.1 tm rfl rfl)) (mw_shifted _ sh4.1 m tm (p + k) (by omega) bt (by omega) mb lp1k1 (by omega) cf (by omega) uq lp1k2) (fun q16 _ wq16 => ?_)
        obtain ⟨pq16, oq16, hq16⟩ := q16
        obtain ⟨xq16, zq16, gq16, aq16, bq16, uq16_0⟩ := wq16
        refine ⟨_, gq16, ?_⟩
        show gz gPP gGG gcn _ _ 22 [some (.ref m), some (.int (zi p)), some (.int (zi a)), some (.int (zi b)), some (.int (zi bt)), some (.int (zi zr)), some (.int (zi k)), none, none] [.int (zi zq16)] hq16 _
        have sq16 := gSs.tr sh4 xq16 (by decide)
        have s17 := (xq16.2.2.2.2.2 m 67 (by rw [tm]; decide)).trans lp1k0
        have s18 := (xq16.2.2.2.2.2 m 64 (by rw [tm]; decide)).trans lp1k1
        have pr19 := gRn.fr xq16.2 (by decide) lp1k2
        have pr20 := gRn.fr xq16.2 (by decide) lp1k3
        have hbj : (p + a).toNat + (k - a).toNat = (p + k).toNat := by omega
        have hcf : cf ((p + a).toNat + (k - a).toNat) = cf (p + k).toNat := by rw [hbj]
        have hkj : (k + 1 - a).toNat = (k - a).toNat + 1 := by omega
        obtain ⟨hA, hAn, hAp⟩ := e_shA uq16_0
        refine gz_s 2 (pc' := 26) (L' := [some (.ref m), some (.int (zi p)), some (.int (zi a)), some (.int (zi b)), some (.int (zi bt)), some (.int (zi zr)), some (.int (zi k)), some (.int (zi zq16)), none]) (S' := [.int (zi zq16)]) rfl ?_
        by_cases hc21 : ¬ (zq16 : Int) = 0
        · refine gy_ifT (pc' := 35) rfl (by decide) (by decide) (by omega) hc21 ?_
          have hk23 : eeZ ecS (eeO ecS ecP bt cf (p + a).toNat w1 (k - a).toNat).2 ((zr - zr) / 16).toNat = (eeO ecS ecP bt cf (p + a).toNat w1 (k - a).toNat).2 := by rw [show ((zr - zr) / 16).toNat = 0 by omega]; rfl
          have hrw24 : gRn 514 ty 36 (eeJ w0 (eeZ ecS (eeO ecS ecP bt cf (p + a).toNat w1 (k - a).toNat).2 ((zr - zr) / 16).toNat)) hq16 := by rw [hk23]; exact pr20
          have lp22 : ∀ (fu : Nat) (h25 : gH) (z2 : Int), (z2 + 1).toNat < fu → gSs rT 1027 ty [36999] h h25 → (0 ≤ z2 ∧ z2 ≤ 63) → (z2 ≤ zr) → ((zr - z2) % 16 = 0) → h25.2.2.2.2 m 67 = .int (zi ic) → h25.2.2.2.2 m 64 = .int (zi mb) → gRn (64 * mb).toNat ty 33 cf h25 → gRn 514 ty 36 (eeJ w0 (eeZ ecS (eeO ecS ecP bt cf (p + a).toNat w1 (k - a).toNat).2 ((zr - z2) / 16).toNat)) h25 → gz gPP gGG gcn (d + 3) gt197 35 [some (.ref m), some (.int (zi p)), some (.int (zi a)), some (.int (zi b)), some (.int (zi bt)), some (.int (zi z2)), some (.int (zi k)), some (.int (zi zq16)), none] [] h25 (fun q _ => gSs rT 1027 ty [36999] h q.2.2 ∧ gfin gt197 q.1 q.2.1 = some none ∧ (gRn 514 ty 36 (eeJ w0 (eeOt ecS ecP bt cf (p + a).toNat (b - a + 1).toNat w1)) q.2.2)) := by
            intro fu
            induction fu with
            | zero => intro h25 z2 hm; exact absurd hm (Nat.not_lt_zero _)
            | succ fu ihlp22 =>
              intro h25 z2 lp22m sh25 lp22f0 lp22f1 lp22f2 lp22k0 lp22k1 lp22k2 lp22k3
              refine gz_s 2 (pc' := 39) (L' := [some (.ref m), some (.int (zi p)), some (.int (zi a)), some (.int (zi b)), some (.int (zi bt)), some (.int (zi z2)), some (.int (zi k)), some (.int (zi zq16)), none]) (S' := [.int (zi 15), .int (zi z2)]) rfl ?_
              by_cases hc26 : (z2 : Int) ≤ 15
              · refine gy_icT (pc' := 60) rfl (by decide) (by decide) (by omega) (by omega) hc26 ?_
                refine gz_s 1 (pc' := 62) (L' := [some (.ref m), some (.int (zi p)), some (.int (zi a)), some (.int (zi b)), some (.int (zi bt)), some (.int (zi z2)), some (.int (zi k)), some (.int (zi zq16)), none]) (S' := [.int (zi zq16)]) rfl ?_
                refine gz_call rfl (by decide) rfl (by decide) (by decide) (gcal_of rfl rfl rfl (Nat.le_of_ble_eq_true rfl) rfl) (mw_sizeOfNumber _ sh25.1 zq16 (by omega) ) (fun q27 _ wq27 => ?_)
                obtain ⟨pq27, oq27, hq27⟩ := q27
                obtain ⟨xq27, zq27, gq27, aq27, bq27, uq27_0⟩ := wq27
                refine ⟨_, gq27, ?_⟩
                show gz gPP gGG gcn _ _ 65 [some (.ref m), some (.int (zi p)), some (.int (zi a)), some (.int (zi b)), some (.int (zi bt)), some (.int (zi z2)), some (.int (zi k)), some (.int (zi zq16)), none] [.int (zi zq27)] hq27 _
                have sq27 := gSs.tr sh25 xq27 (by decide)
                have s28 := (xq27.2.2.2.2.2 m 67 (by rw [tm]; decide)).trans lp22k0
                have s29 := (xq27.2.2.2.2.2 m 64 (by rw [tm]; decide)).trans lp22k1
                have pr30 := gRn.fr xq27.2 (by decide) lp22k2
                have pr31 := gRn.fr xq27.2 (by decide) lp22k3
                have hbz : zq27 = eeL (eeA zq16) := uq27_0
                have hlb := eeL_b (eeA zq16)
                refine gz_s 1 (pc' := 67) (L' := [some (.ref m), some (.int (zi p)), some (.int (zi a)), some (.int (zi b)), some (.int (zi bt)), some (.int (zi z2)), some (.int (zi k)), some (.int (zi zq16)), some (.int (zi zq27))]) (S' := []) rfl ?_
                have hwb32 : ewB (eeZ ecS (eeO ecS ecP bt cf (p + a).toNat w1 (k - a).toNat).2 ((zr - z2) / 16).toNat) 4000 := ((ewB.O (lw := bt) (cf := cf) (b := (p + a).toNat) hywb (k - a).toNat).1.z ((zr - z2) / 16).toNat).mono (by omega)
                refine gy_s 7 (pc' := 77) (L' := [some (.ref m), some (.int (zi p)), some (.int (zi a)), some (.int (zi b)), some (.int (zi bt)), some (.int (zi z2)), some (.int (zi k)), some (.int (zi zq16)), some (.int (zi zq27))]) (S' := [.int (((zi 16) * (zi z2)) + (zi zq27)), .int (zi 1), .ref m]) (L2 := [some (.ref m), some (.int (zi p)), some (.int (zi a)), some (.int (zi b)), some (.int (zi bt)), some (.int (zi z2)), some (.int (zi k)), some (.int (zi zq16)), some (.int (zi zq27))]) (S2 := [.int (zi ((16 * z2) + zq27)), .int (zi 1), .ref m]) rfl (by simp only [zi_add, zi_sub, zi_mul, zi_neg, zi_and1, zi_and7, zi_and15, zi_and31, zi_and255]) (by simp only [zi_add, zi_sub, zi_mul, zi_neg, zi_and1, zi_and7, zi_and15, zi_and31, zi_and255]) ?_
                refine gz_call rfl (by decide) rfl (by decide) (by decide) (gcal_of rfl rfl rfl (Nat.le_of_ble_eq_true rfl) (gJ.recv (G := gGG) sq27.1 tm rfl rfl)) (mn_putSymbol1 _ sq27.1 m tm 1 (by omega) ((16 * z2) + zq27) (by omega) ic s28 (by omega) w0 (eeZ ecS (eeO ecS ecP bt cf (p + a).toNat w1 (k - a).toNat).2 ((zr - z2) / 16).toNat) uq pr31 hwb32) (fun q33 _ wq33 => ?_)
                obtain ⟨pq33, oq33, hq33⟩ := q33
                obtain ⟨xq33, gq33, yq33_0⟩ := wq33
                refine ⟨_, gq33, ?_⟩
                show gz gPP gGG gcn _ _ 80 [some (.ref m), some (.int (zi p)), some (.int (zi a)), some (.int (zi b)), some (.int (zi bt)), some (.int (zi z2)), some (.int (zi k)), some (.int (zi zq16)), some (.int (zi zq27))] [] hq33 _
                have sq33 := gSs.tr sq27 xq33 (by decide)
                have s34 := (xq33.2.2.2.2.2 m 67 (by rw [tm]; decide)).trans s28
                have s35 := (xq33.2.2.2.2.2 m 64 (by rw [tm]; decide)).trans s29
                have pr36 := gRn.fr xq33.2 (by decide) pr30
                refine gz_s 3 (pc' := 85) (L' := [some (.ref m), some (.int (zi p)), some (.int (zi a)), some (.int (zi b)), some (.int (zi bt)), some (.int (zi z2)), some (.int (zi k)), some (.int (zi zq16)), some (.int (zi zq27))]) (S' := [.int (zi zq27), .int (zi zq16), .ref m]) rfl ?_
                refine gz_call rfl (by decide) rfl (by decide) (by decide) (gcal_of rfl rfl rfl (Nat.le_of_ble_eq_true rfl) (gJ.recv (G := gGG) sq33.1 tm rfl rfl)) (mn_putNumber _ sq33.1 m tm zq16 (by omega) zq27 (by omega) ic s34 (by omega) uq) (fun q37 _ wq37 => ?_)
                obtain ⟨pq37, oq37, hq37⟩ := q37
                obtain ⟨xq37, gq37⟩ := wq37
                refine ⟨_, gq37, ?_⟩
                show gz gPP gGG gcn _ _ 88 [some (.ref m), some (.int (zi p)), some (.int (zi a)), some (.int (zi b)), some (.int (zi bt)), some (.int (zi z2)), some (.int (zi k)), some (.int (zi zq16)), some (.int (zi zq27))] [] hq37 _
                have sq37 := gSs.tr sq33 xq37 (by decide)
                have s38 := (xq37.2.2.2.2.2 m 67 (by rw [tm]; decide)).trans s34
                have s39 := (xq37.2.2.2.2.2 m 64 (by rw [tm]; decide)).trans s35
                have pr40 := gRn.fr xq37.2 (by decide) pr36
                have pr41 := gRn.fr xq37.2 (by decide) yq33_0
                refine gz_s 2 (pc' := 91) (L' := [some (.ref m), some (.int (zi p)), some (.int (zi a)), some (.int (zi b)), some (.int (zi bt)), some (.int (zi 0)), some (.int (zi k)), some (.int (zi zq16)), some (.int (zi zq27))]) (S' := []) rfl ?_
                have hO : eeO ecS ecP bt cf (p + a).toNat w1 ((k + 1) - a).toNat = (0, ecS ((16 * z2) + zq27) (eeZ ecS (eeO ecS ecP bt cf (p + a).toNat w1 (k - a).toNat).2 ((zr - z2) / 16).toNat)) := by
                  have hz0 : ¬ eeA zq16 = 0 := by unfold eeA; split <;> omega
                  have hzA : eeA zq16 = if zq16 < 0 then -zq16 else zq16 := rfl
                  have hv9 : (cf (p + k).toNat < 0) ↔ zq16 < 0 := by constructor <;> intro h9 <;> omega
                  rw [hkj, eeO_y (a := eeA zq16) (r := zr) (s := (16 * z2) + zq27) (V := if zq16 < 0 then zq16 - 1 else zq16) (N := zq27) (m := ((zr - z2) / 16).toNat) hcf (by rw [hA]) hz0 (by omega) (by omega) (by omega) (by simp only [hv9]; split <;> omega) (by omega)]; rfl
                have hO1 : (eeO ecS ecP bt cf (p + a).toNat w1 ((k + 1) - a).toNat).1 = 0 := by rw [hO]
                have hk42 : (eeO ecS ecP bt cf (p + a).toNat w1 ((k + 1) - a).toNat).2 = ecS ((16 * z2) + zq27) (eeZ ecS (eeO ecS ecP bt cf (p + a).toNat w1 (k - a).toNat).2 ((zr - z2) / 16).toNat) := by rw [hO]
                have hrw43 : gRn 514 ty 36 (eeJ w0 ((eeO ecS ecP bt cf (p + a).toNat w1 ((k + 1) - a).toNat).2)) hq37 := by rw [hk42]; exact pr41
                refine gy_s 2 (pc' := 6) (L' := [some (.ref m), some (.int (zi p)), some (.int (zi a)), some (.int (zi b)), some (.int (zi bt)), some (.int (zi 0)), some (.int ((zi k) + zi 1)), some (.int (zi zq16)), some (.int (zi zq27))]) (S' := []) (L2 := [some (.ref m), some (.int (zi p)), some (.int (zi a)), some (.int (zi b)), some (.int (zi bt)), some (.int (zi 0)), some (.int (zi (k + 1))), some (.int (zi zq16)), some (.int (zi zq27))]) (S2 := []) rfl (by simp only [zi_add, zi_sub, zi_mul, zi_neg, zi_and1, zi_and7, zi_and15, zi_and31, zi_and255]) (by simp only [zi_add, zi_sub, zi_mul, zi_neg, zi_and1, zi_and7, zi_and15, zi_and31, zi_and255]) ?_
                exact gz_wk (ihlp1 hq37 0 (k + 1) (by omega) sq37 (by omega) (by omega) (by omega) (by omega) (by omega) (by omega) s38 s39 pr40 hrw43) (gLw.s (gLw.s (gLw.s (gLw.s (gLw.s (gLw.s (gLw.s (gLw.n (gLw.n gLw.z)))))))))
              · refine gy_icF rfl (by decide) (by decide) (by omega) (by omega) hc26 ?_
                have hwb44 : ewB (eeZ ecS (eeO ecS ecP bt cf (p + a).toNat w1 (k - a).toNat).2 ((zr - z2) / 16).toNat) 4000 := ((ewB.O (lw := bt) (cf := cf) (b := (p + a).toNat) hywb (k - a).toNat).1.z ((zr - z2) / 16).toNat).mono (by omega)
                refine gz_s 3 (pc' := 47) (L' := [some (.ref m), some (.int (zi p)), some (.int (zi a)), some (.int (zi b)), some (.int (zi bt)), some (.int (zi z2)), some (.int (zi k)), some (.int (zi zq16)), none]) (S' := [.int (zi 240), .int (zi 1), .ref m]) rfl ?_
                refine gz_call rfl (by decide) rfl (by decide) (by decide) (gcal_of rfl rfl rfl (Nat.le_of_ble_eq_true rfl) (gJ.recv (G := gGG) sh25.1 tm rfl rfl)) (mn_putSymbol1 _ sh25.1 m tm 1 (by omega) 240 (by omega) ic lp22k0 (by omega) w0 (eeZ ecS (eeO ecS ecP bt cf (p + a).toNat w1 (k - a).toNat).2 ((zr - z2) / 16).toNat) uq lp22k3 hwb44) (fun q45 _ wq45 => ?_)
                obtain ⟨pq45, oq45, hq45⟩ := q45
                obtain ⟨xq45, gq45, yq45_0⟩ := wq45
                refine ⟨_, gq45, ?_⟩
                show gz gPP gGG gcn _ _ 50 [some (.ref m), some (.int (zi p)), some (.int (zi a)), some (.int (zi b)), some (.int (zi bt)), some (.int (zi z2)), some (.int (zi k)), some (.int (zi zq16)), none] [] hq45 _
                have sq45 := gSs.tr sh25 xq45 (by decide)
                have s46 := (xq45.2.2.2.2.2 m 67 (by rw [tm]; decide)).trans lp22k0
                have s47 := (xq45.2.2.2.2.2 m 64 (by rw [tm]; decide)).trans lp22k1
                have pr48 := gRn.fr xq45.2 (by decide) lp22k2
                refine gy_s 4 (pc' := 57) (L' := [some (.ref m), some (.int (zi p)), some (.int (zi a)), some (.int (zi b)), some (.int (zi bt)), some (.int ((zi z2) - (zi 16))), some (.int (zi k)), some (.int (zi zq16)), none]) (S' := []) (L2 := [some (.ref m), some (.int (zi p)), some (.int (zi a)), some (.int (zi b)), some (.int (zi bt)), some (.int (zi (z2 - 16))), some (.int (zi k)), some (.int (zi zq16)), none]) (S2 := []) rfl (by simp only [zi_add, zi_sub, zi_mul, zi_neg, zi_and1, zi_and7, zi_and15, zi_and31, zi_and255]) (by simp only [zi_add, zi_sub, zi_mul, zi_neg, zi_and1, zi_and7, zi_and15, zi_and31, zi_and255]) ?_
                have hk49 : eeZ ecS (eeO ecS ecP bt cf (p + a).toNat w1 (k - a).toNat).2 ((zr - (z2 - 16)) / 16).toNat = ecS 240 (eeZ ecS (eeO ecS ecP bt cf (p + a).toNat w1 (k - a).toNat).2 ((zr - z2) / 16).toNat) := eeZ_1 (by omega)
                have hrw50 : gRn 514 ty 36 (eeJ w0 (eeZ ecS (eeO ecS ecP bt cf (p + a).toNat w1 (k - a).toNat).2 ((zr - (z2 - 16)) / 16).toNat)) hq45 := by rw [hk49]; exact yq45_0
                refine gz_s 1 (pc' := 35) (L' := [some (.ref m), some (.int (zi p)), some (.int (zi a)), some (.int (zi b)), some (.int (zi bt)), some (.int (zi (z2 - 16))), some (.int (zi k)), some (.int (zi zq16)), none]) (S' := []) rfl ?_
                exact gz_wk (ihlp22 hq45 (z2 - 16) (by omega) sq45 (by omega) (by omega) (by omega) s46 s47 pr48 hrw50) (gLw.s (gLw.s (gLw.s (gLw.s (gLw.s (gLw.s (gLw.s (gLw.s (gLw.n gLw.z)))))))))
          exact gz_wk (lp22 _ hq16 zr (Nat.lt_succ_self _) sq16 (by omega) (by omega) (by omega) s17 s18 pr19 hrw24) (gLw.s (gLw.s (gLw.s (gLw.s (gLw.s (gLw.s (gLw.s (gLw.s (gLw.n gLw.z)))))))))
        · refine gy_ifF rfl (by decide) (by decide) (by omega) hc21 ?_
          refine gy_s 2 (pc' := 91) (L' := [some (.ref m), some (.int (zi p)), some (.int (zi a)), some (.int (zi b)), some (.int (zi bt)), some (.int ((zi zr) + zi 1)), some (.int (zi k)), some (.int (zi zq16)), none]) (S' := []) (L2 := [some (.ref m), some (.int (zi p)), some (.int (zi a)), some (.int (zi b)), some (.int (zi bt)), some (.int (zi (zr + 1))), some (.int (zi k)), some (.int (zi zq16)), none]) (S2 := []) rfl (by simp only [zi_add, zi_sub, zi_mul, zi_neg, zi_and1, zi_and7, zi_and15, zi_and31, zi_and255]) (by simp only [zi_add, zi_sub, zi_mul, zi_neg, zi_and1, zi_and7, zi_and15, zi_and31, zi_and255]) ?_
          have hO : eeO ecS ecP bt cf (p + a).toNat w1 ((k + 1) - a).toNat = (zr + 1, (eeO ecS ecP bt cf (p + a).toNat w1 (k - a).toNat).2) := by rw [hkj, eeO_z hcf (by rw [← hA, show zq16 = 0 by omega]; rfl)]; rw [show (eeO ecS ecP bt cf (p + a).toNat w1 (k - a).toNat).1 = zr by omega]
          have hO1 : (eeO ecS ecP bt cf (p + a).toNat w1 ((k + 1) - a).toNat).1 = zr + 1 := by rw [hO]
          have hk51 : (eeO ecS ecP bt cf (p + a).toNat w1 ((k + 1) - a).toNat).2 = (eeO ecS ecP bt cf (p + a).toNat w1 (k - a).toNat).2 := by rw [hO]
          have hrw52 : gRn 514 ty 36 (eeJ w0 ((eeO ecS ecP bt cf (p + a).toNat w1 ((k + 1) - a).toNat).2)) hq16 := by rw [hk51]; exact pr20
          refine gy_s 2 (pc' := 6) (L' := [some (.ref m), some (.int (zi p)), some (.int (zi a)), some (.int (zi b)), some (.int (zi bt)), some (.int (zi (zr + 1))), some (.int ((zi k) + zi 1)), some (.int (zi zq16)), none]) (S' := []) (L2 := [some (.ref m), some (.int (zi p)), some (.int (zi a)), some (.int (zi b)), some (.int (zi bt)), some (.int (zi (zr + 1))), some (.int (zi (k + 1))), some (.int (zi zq16)), none]) (S2 := []) rfl (by simp only [zi_add, zi_sub, zi_mul, zi_neg, zi_and1, zi_and7, zi_and15, zi_and31, zi_and255]) (by simp only [zi_add, zi_sub, zi_mul, zi_neg, zi_and1, zi_and7, zi_and15, zi_and31, zi_and255]) ?_
          exact gz_wk (ihlp1 hq16 (zr + 1) (k + 1) (by omega) sq16 (by omega) (by omega) (by omega) (by omega) (by omega) (by omega) s17 s18 pr19 hrw52) (gLw.s (gLw.s (gLw.s (gLw.s (gLw.s (gLw.s (gLw.s (gLw.n (gLw.n gLw.z)))))))))
  have hk00 : (eeO ecS ecP bt cf (p + a).toNat w1 (a - a).toNat).1 = 0 := by rw [show (a - a).toNat = 0 by omega]; rfl
  exact gz_wk (lp1 _ h 0 a (Nat.lt_succ_self _) hS (by omega) (by omega) (by omega) (by omega) (by omega) (by omega) eic emb hyf33 hrw3) (gLw.s (gLw.s (gLw.s (gLw.s (gLw.s (gLw.s (gLw.s (gLw.n (gLw.n gLw.z)))))))))
set_option maxRecDepth 20000 in
set_option maxHeartbeats 4000000 in
theorem mw_putOthers (d : Nat) {ty : Nat → Nat} {h : gH} (hJ : gJ rT 1027 ty h) (m : Nat) (tm : ty m = 1) (p : Int) (rp : 0 ≤ p ∧ p ≤ 960) (a : Int) (ra : 1 ≤ a ∧ a ≤ 63) (b : Int) (rb : 0 ≤ b ∧ b ≤ 63) (bt : Int) (rbt : 0 ≤ bt ∧ bt ≤ 3) (w0 : Int) (ew0 : h.2.2.2.2 m 59 = .int (zi w0)) (rw0 : 0 ≤ w0 ∧ w0 ≤ 60000) (u0 : Int) (eu0 : h.2.2.2.2 m 61 = .int (zi u0)) (ru0 : 0 ≤ u0 ∧ u0 ≤ 127) (b0 : Int) (eb0 : h.2.2.2.2 m 62 = .int (zi b0)) (rb0 : 0 ≤ b0 ∧ b0 ≤ 7) (ic : Int) (eic : h.2.2.2.2 m 67 = .int (zi ic)) (ric : 1 ≤ ic ∧ ic ≤ 1) (mb : Int) (emb : h.2.2.2.2 m 64 = .int (zi mb)) (rmb : 0 ≤ mb ∧ mb ≤ 16) (cf : Nat → Int) (sg : gWt) (ek1 : Nat → Int × Int) (pp0 : w0 = sg.1) (pp1 : u0 = sg.2.1) (pp2 : b0 = sg.2.2.1) (pp3 : 4 * w0 + b0 + (35 * (b - a + 1) + 22) ≤ 239900) (pp4 : p + 64 ≤ 64 * mb) (pp5 : a ≤ b + 1) (uq : gUq ty) (hyso : gSO ty sg h) (hyok : eeOk sg) (hytk1 : gTk (True) 1 ty ek1 h) (hyf33 : gRn (64 * mb).toNat ty 33 cf h) : gz gPP gGG gcn (d + 3) gt197 0 (gent [.ref m, .int (zi p), .int (zi a), .int (zi b), .int (zi bt)] 9) [] h (fun q _ => gSs rT 1027 ty [1059, 1061, 1062, 32999] h q.2.2 ∧ ∃ w1 u1 b1 : Int, gfin gt197 q.1 q.2.1 = some none ∧ q.2.2.2.2.2.2 m 59 = .int (zi w1) ∧ 0 ≤ w1 ∧ w1 ≤ 60000 ∧ q.2.2.2.2.2.2 m 61 = .int (zi u1) ∧ 0 ≤ u1 ∧ u1 ≤ 127 ∧ q.2.2.2.2.2.2 m 62 = .int (zi b1) ∧ 0 ≤ b1 ∧ b1 ≤ 7 ∧ (w1 = (eeOt (ewS ek1) eeN bt cf (p + a).toNat (b - a + 1).toNat sg).1) ∧ (u1 = (eeOt (ewS ek1) eeN bt cf (p + a).toNat (b - a + 1).toNat sg).2.1) ∧ (b1 = (eeOt (ewS ek1) eeN bt cf (p + a).toNat (b - a + 1).toNat sg).2.2.1) ∧ (4 * w1 + b1 ≤ 4 * w0 + b0 + (35 * (b - a + 1) + 22)) ∧ (w0 ≤ w1) ∧ (gSO ty (eeOt (ewS ek1) eeN bt cf (p + a).toNat (b - a + 1).toNat sg) q.2.2) ∧ (eeOk (eeOt (ewS ek1) eeN bt cf (p + a).toNat (b - a + 1).toNat sg))) := by
  have hS : gSs rT 1027 ty [1059, 1061, 1062, 32999] h h := gSs.rf hJ
  refine gz_s 4 (pc' := 6) (L' := [some (.ref m), some (.int (zi p)), some (.int (zi a)), some (.int (zi b)), some (.int (zi bt)), some (.int (zi 0)), some (.int (zi a)), none, none]) (S' := []) rfl ?_
  have hk2 : (eeO (ewS ek1) eeN bt cf (p + a).toNat sg (a - a).toNat).2 = sg := by rw [show (a - a).toNat = 0 by omega]; rfl
  have hk2_1 : ((eeO (ewS ek1) eeN bt cf (p + a).toNat sg (a - a).toNat).2).1 = (sg).1 := by rw [hk2]
  have hk2_21 : ((eeO (ewS ek1) eeN bt cf (p + a).toNat sg (a - a).toNat).2).2.1 = (sg).2.1 := by rw [hk2]
  have hk2_221 : ((eeO (ewS ek1) eeN bt cf (p + a).toNat sg (a - a).toNat).2).2.2.1 = (sg).2.2.1 := by rw [hk2]
  have hso3 : gSO ty ((eeO (ewS ek1) eeN bt cf (p + a).toNat sg (a - a).toNat).2) h := by rw [hk2]; exact hyso
  have hok4 : eeOk ((eeO (ewS ek1) eeN bt cf (p + a).toNat sg (a - a).toNat).2) := by rw [hk2]; exact hyok
  have hok4c := hok4.cur
  have lp1 : ∀ (fu : Nat) (h5 : gH) (zr : Int) (k : Int) (wv : Int) (uv : Int) (bv : Int), (65 - k).toNat < fu → gSs rT 1027 ty [1059, 1061, 1062, 32999] h h5 → (0 ≤ zr ∧ zr ≤ 63) → (1 ≤ k ∧ k ≤ 64) → (0 ≤ wv ∧ wv ≤ 60000) → (0 ≤ uv ∧ uv ≤ 127) → (0 ≤ bv ∧ bv ≤ 7) → (zr = (eeO (ewS ek1) eeN bt cf (p + a).toNat sg (k - a).toNat).1) → (a ≤ k) → (k ≤ b + 1) → (zr ≤ k - a) → (wv = ((eeO (ewS ek1) eeN bt cf (p + a).toNat sg (k - a).toNat).2).1) → (uv = ((eeO (ewS ek1) eeN bt cf (p + a).toNat sg (k - a).toNat).2).2.1) → (bv = ((eeO (ewS ek1) eeN bt cf (p + a).toNat sg (k - a).toNat).2).2.2.1) → (4 * wv + bv + 35 * zr ≤ 4 * w0 + b0 + 35 * (k - a)) → (w0 ≤ wv) → h5.2.2.2.2 m 67 = .int (zi ic) → h5.2.2.2.2 m 64 = .int (zi mb) → h5.2.2.2.2 m 59 = .int (zi wv) → h5.2.2.2.2 m 61 = .int (zi uv) → h5.2.2.2.2 m 62 = .int (zi bv) → gTk (True) 1 ty ek1 h5 → gRn (64 * mb).toNat ty 33 cf h5 → gSO ty ((eeO (ewS ek1) eeN bt cf (p + a).toNat sg (k - a).toNat).2) h5 → eeOk ((eeO (ewS ek1) eeN bt cf (p + a).toNat sg (k - a).toNat).2) → gz gPP gGG gcn (d + 3) gt197 6 [some (.ref m), some (.int (zi p)), some (.int (zi a)), some (.int (zi b)), some (.int (zi bt)), some (.int (zi zr)), some (.int (zi k)), none, none] [] h5 (fun q _ => gSs rT 1027 ty [1059, 1061, 1062, 32999] h q.2.2 ∧ ∃ w1 u1 b1 : Int, gfin gt197 q.1 q.2.1 = some none ∧ q.2.2.2.2.2.2 m 59 = .int (zi w1) ∧ 0 ≤ w1 ∧ w1 ≤ 60000 ∧ q.2.2.2.2.2.2 m 61 = .int (zi u1) ∧ 0 ≤ u1 ∧ u1 ≤ 127 ∧ q.2.2.2.2.2.2 m 62 = .int (zi b1) ∧ 0 ≤ b1 ∧ b1 ≤ 7 ∧ (w1 = (eeOt (ewS ek1) eeN bt cf (p + a).toNat (b - a + 1).toNat sg).1) ∧ (u1 = (eeOt (ewS ek1) eeN bt cf (p + a).toNat (b - a + 1).toNat sg).2.1) ∧ (b1 = (eeOt (ewS ek1) eeN bt cf (p + a).toNat (b - a + 1).toNat sg).2.2.1) ∧ (4 * w1 + b1 ≤ 4 * w0 + b0 + (35 * (b - a + 1) + 22)) ∧ (w0 ≤ w1) ∧ (gSO ty (eeOt (ewS ek1) eeN bt cf (p + a).toNat (b - a + 1).toNat sg) q.2.2) ∧ (eeOk (eeOt (ewS ek1) eeN bt cf (p + a).toNat (b - a + 1).toNat sg))) := by
    intro fu
    induction fu with
    | zero => intro h5 zr k wv uv bv hm; exact absurd hm (Nat.not_lt_zero _)
    | succ fu ihlp1 =>
      intro h5 zr k wv uv bv lp1m sh5 lp1f0 lp1f1 lp1f2 lp1f3 lp1f4 lp1f5 lp1f6 lp1f7 lp1f8 lp1f9 lp1f10 lp1f11 lp1f12 lp1f13 lp1k0 lp1k1 lp1k2 lp1k3 lp1k4 lp1k5 lp1k6 lp1k7 lp1k8
      refine gz_s 2 (pc' := 9) (L' := [some (.ref m), some (.int (zi p)), some (.int (zi a)), some (.int (zi b)), some (.int (zi bt)), some (.int (zi zr)), some (.int (zi k)), none, none]) (S' := [.int (zi b), .int (zi k)]) rfl ?_
      by_cases hc6 : (b : Int) < k
      · refine gy_icT (pc' := 97) rfl (by decide) (by decide) (by omega) (by omega) hc6 ?_
        refine gz_s 1 (pc' := 99) (L' := [some (.ref m), some (.int (zi p)), some (.int (zi a)), some (.int (zi b)), some (.int (zi bt)), some (.int (zi zr)), some (.int (zi k)), none, none]) (S' := [.int (zi zr)]) rfl ?_
        by_cases hc7 : (zr : Int) ≤ 0
        · refine gy_ifT (pc' := 108) rfl (by decide) (by decide) (by omega) hc7 ?_
          have hkt : (k - a).toNat = (b - a + 1).toNat := by omega
          have hr9 : (eeO (ewS ek1) eeN bt cf (p + a).toNat sg (k - a).toNat).1 = zr := by omega
          rw [hkt] at hr9
          have hk8 : eeOt (ewS ek1) eeN bt cf (p + a).toNat (b - a + 1).toNat sg = (eeO (ewS ek1) eeN bt cf (p + a).toNat sg (k - a).toNat).2 := by rw [hkt]; exact eeOt_n (by omega)
          have hk8_1 : (eeOt (ewS ek1) eeN bt cf (p + a).toNat (b - a + 1).toNat sg).1 = ((eeO (ewS ek1) eeN bt cf (p + a).toNat sg (k - a).toNat).2).1 := by rw [hk8]
          have hk8_21 : (eeOt (ewS ek1) eeN bt cf (p + a).toNat (b - a + 1).toNat sg).2.1 = ((eeO (ewS ek1) eeN bt cf (p + a).toNat sg (k - a).toNat).2).2.1 := by rw [hk8]
          have hk8_221 : (eeOt (ewS ek1) eeN bt cf (p + a).toNat (b - a + 1).toNat sg).2.2.1 = ((eeO (ewS ek1) eeN bt cf (p + a).toNat sg (k - a).toNat).2).2.2.1 := by rw [hk8]
          have hso9 : gSO ty (eeOt (ewS ek1) eeN bt cf (p + a).toNat (b - a + 1).toNat sg) h5 := by rw [hk8]; exact lp1k7
          have hok10 : eeOk (eeOt (ewS ek1) eeN bt cf (p + a).toNat (b - a + 1).toNat sg) := by rw [hk8]; exact lp1k8
          have hok10c := hok10.cur
          exact gz_end (I := .return_) (len := 1) rfl (Or.inl rfl) ⟨sh5, wv, uv, bv, rfl, lp1k2, (by omega), (by omega), lp1k3, (by omega), (by omega), lp1k4, (by omega), (by omega), (by omega), (by omega), (by omega), (by omega), (by omega), hso9, hok10⟩
        · refine gy_ifF rfl (by decide) (by decide) (by omega) hc7 ?_
          refine gz_s 3 (pc' := 105) (L' := [some (.ref m), some (.int (zi p)), some (.int (zi a)), some (.int (zi b)), some (.int (zi bt)), some (.int (zi zr)), some (.int (zi k)), none, none]) (S' := [.int (zi 0), .int (zi 1), .ref m]) rfl ?_
          refine gz_call rfl (by decide) rfl (by decide) (by decide) (gcal_of rfl rfl rfl (Nat.le_of_ble_eq_true rfl) (gJ.recv (G := gGG) sh5.1 tm rfl rfl)) (mw_putSymbol1 _ sh5.1 m tm 1 (by omega) 0 (by omega) wv lp1k2 (by omega) uv lp1k3 (by omega) bv lp1k4 (by omega) ic lp1k0 (by omega) ((eeO (ewS ek1) eeN bt cf (p + a).toNat sg (k - a).toNat).2) ek1 (by omega) (by omega) (by omega) (by omega) uq lp1k7 lp1k8 lp1k5) (fun q11 _ wq11 => ?_)
          obtain ⟨pq11, oq11, hq11⟩ := q11
          obtain ⟨xq11, fq11_0, fq11_1, fq11_2, gq11, efq11_0, afq11_0, bfq11_0, efq11_1, afq11_1, bfq11_1, efq11_2, afq11_2, bfq11_2, uq11_0, uq11_1, uq11_2, uq11_3, uq11_4, yq11_0, yq11_1⟩ := wq11
          refine ⟨_, gq11, ?_⟩
          show gz gPP gGG gcn _ _ 108 [some (.ref m), some (.int (zi p)), some (.int (zi a)), some (.int (zi b)), some (.int (zi bt)), some (.int (zi zr)), some (.int (zi k)), none, none] [] hq11 _
          have sq11 := gSs.tr sh5 xq11 (by decide)
          have s12 := (xq11.2.2.2.2.2 m 67 (by rw [tm]; decide)).trans lp1k0
          have s13 := (xq11.2.2.2.2.2 m 64 (by rw [tm]; decide)).trans lp1k1
          have pr14 := gTk.fr xq11.2 (by decide) (by decide) lp1k5
          have pr15 := gRn.fr xq11.2 (by decide) lp1k6
          have hkt : (k - a).toNat = (b - a + 1).toNat := by omega
          have hr9 : (eeO (ewS ek1) eeN bt cf (p + a).toNat sg (k - a).toNat).1 = zr := by omega
          rw [hkt] at hr9
          have hk16 : eeOt (ewS ek1) eeN bt cf (p + a).toNat (b - a + 1).toNat sg = ewS ek1 0 ((eeO (ewS ek1) eeN bt cf (p + a).toNat sg (k - a).toNat).2) := by rw [hkt]; exact eeOt_p (by omega)
          have hk16_1 : (eeOt (ewS ek1) eeN bt cf (p + a).toNat (b - a + 1).toNat sg).1 = (ewS ek1 0 ((eeO (ewS ek1) eeN bt cf (p + a).toNat sg (k - a).toNat).2)).1 := by rw [hk16]
          have hk16_21 : (eeOt (ewS ek1) eeN bt cf (p + a).toNat (b - a + 1).toNat sg).2.1 = (ewS ek1 0 ((eeO (ewS ek1) eeN bt cf (p + a).toNat sg (k - a).toNat).2)).2.1 := by rw [hk16]
          have hk16_221 : (eeOt (ewS ek1) eeN bt cf (p + a).toNat (b - a + 1).toNat sg).2.2.1 = (ewS ek1 0 ((eeO (ewS ek1) eeN bt cf (p + a).toNat sg (k - a).toNat).2)).2.2.1 := by rw [hk16]
          have hso17 : gSO ty (eeOt (ewS ek1) eeN bt cf (p + a).toNat (b - a + 1).toNat sg) hq11 := by rw [hk16]; exact yq11_0
          have hok18 : eeOk (eeOt (ewS ek1) eeN bt cf (p + a).toNat (b - a + 1).toNat sg) := by rw [hk16]; exact yq11_1
          have hok18c := hok18.cur
          exact gz_end (I := .return_) (len := 1) rfl (Or.inl rfl) ⟨sq11, fq11_0, fq11_1, fq11_2, rfl, efq11_0, (by omega), (by omega), efq11_1, (by omega), (by omega), efq11_2, (by omega), (by omega), (by omega), (by omega), (by omega), (by omega), (by omega), hso17, hok18⟩
      · refine gy_icF rfl (by decide) (by decide) (by omega) (by omega) hc6 ?_
        refine gy_s 5 (pc' := 19) (L' := [some (.ref m), some (.int (zi p)), some (.int (zi a)), some (.int (zi b)), some (.int (zi bt)), some (.int (zi zr)), some (.int (zi k)), none, none]) (S' := [.int (zi bt), .int ((zi p) + (zi k)), .ref m]) (L2 := [some (.ref m), some (.int (zi p)), some (.int (zi a)), some (.int (zi b)), some (.int (zi bt)), some (.int (zi zr)), some (.int (zi k)), none, none]) (S2 := [.int (zi bt), .int (zi (p + k)), .ref m]) rfl (by simp only [zi_add, zi_sub, zi_mul, zi_neg, zi_and1, zi_and7, zi_and15, zi_and31, zi_and255]) (by simp only [zi_add, zi_sub, zi_mul, zi_neg, zi_and1, zi_and7, zi_and15, zi_and31, zi_and255]) ?_
        refine gz_call rfl (by decide) rfl (by decide) (by decide) (gcal_of rfl rfl rfl (Nat.le_of_ble_eq_true rfl) (gJ.recv (G := gGG) sh5.1 tm rfl rfl)) (mw_shifted _ sh5.1 m tm (p + k) (by omega) bt (by omega) mb lp1k1 (by omega) cf (by omega) uq lp1k6) (fun q19 _ wq19 => ?_)
        obtain ⟨pq19, oq19, hq19⟩ := q19
        obtain ⟨xq19, zq19, gq19, aq19, bq19, uq19_0⟩ := wq19
        refine ⟨_, gq19, ?_⟩
        show gz gPP gGG gcn _ _ 22 [some (.ref m), some (.int (zi p)), some (.int (zi a)), some (.int (zi b)), some (.int (zi bt)), some (.int (zi zr)), some (.int (zi k)), none, none] [.int (zi zq19)] hq19 _
        have sq19 := gSs.tr sh5 xq19 (by decide)
        have s20 := (xq19.2.2.2.2.2 m 67 (by rw [tm]; decide)).trans lp1k0
        have s21 := (xq19.2.2.2.2.2 m 64 (by rw [tm]; decide)).trans lp1k1
        have s22 := (xq19.2.2.2.2.2 m 59 (by rw [tm]; decide)).trans lp1k2
        have s23 := (xq19.2.2.2.2.2 m 61 (by rw [tm]; decide)).trans lp1k3
        have s24 := (xq19.2.2.2.2.2 m 62 (by rw [tm]; decide)).trans lp1k4
        have pr25 := gTk.fr xq19.2 (by decide) (by decide) lp1k5
        have pr26 := gRn.fr xq19.2 (by decide) lp1k6
        have pr27 := gSO.fr xq19.2 (by decide) lp1k7
        have hbj : (p + a).toNat + (k - a).toNat = (p + k).toNat := by omega
        have hcf : cf ((p + a).toNat + (k - a).toNat) = cf (p + k).toNat := by rw [hbj]
        have hkj : (k + 1 - a).toNat = (k - a).toNat + 1 := by omega
        obtain ⟨hA, hAn, hAp⟩ := e_shA uq19_0
        refine gz_s 2 (pc' := 26) (L' := [some (.ref m), some (.int (zi p)), some (.int (zi a)), some (.int (zi b)), some (.int (zi bt)), some (.int (zi zr)), some (.int (zi k)), some (.int (zi zq19)), none]) (S' := [.int (zi zq19)]) rfl ?_
        by_cases hc28 : ¬ (zq19 : Int) = 0
        · refine gy_ifT (pc' := 35) rfl (by decide) (by decide) (by omega) hc28 ?_
          have hk30 : eeZ (ewS ek1) (eeO (ewS ek1) eeN bt cf (p + a).toNat sg (k - a).toNat).2 ((zr - zr) / 16).toNat = (eeO (ewS ek1) eeN bt cf (p + a).toNat sg (k - a).toNat).2 := by rw [show ((zr - zr) / 16).toNat = 0 by omega]; rfl
          have hk30_1 : (eeZ (ewS ek1) (eeO (ewS ek1) eeN bt cf (p + a).toNat sg (k - a).toNat).2 ((zr - zr) / 16).toNat).1 = ((eeO (ewS ek1) eeN bt cf (p + a).toNat sg (k - a).toNat).2).1 := by rw [hk30]
          have hk30_21 : (eeZ (ewS ek1) (eeO (ewS ek1) eeN bt cf (p + a).toNat sg (k - a).toNat).2 ((zr - zr) / 16).toNat).2.1 = ((eeO (ewS ek1) eeN bt cf (p + a).toNat sg (k - a).toNat).2).2.1 := by rw [hk30]
          have hk30_221 : (eeZ (ewS ek1) (eeO (ewS ek1) eeN bt cf (p + a).toNat sg (k - a).toNat).2 ((zr - zr) / 16).toNat).2.2.1 = ((eeO (ewS ek1) eeN bt cf (p + a).toNat sg (k - a).toNat).2).2.2.1 := by rw [hk30]
          have hso31 : gSO ty (eeZ (ewS ek1) (eeO (ewS ek1) eeN bt cf (p + a).toNat sg (k - a).toNat).2 ((zr - zr) / 16).toNat) hq19 := by rw [hk30]; exact pr27
          have hok32 : eeOk (eeZ (ewS ek1) (eeO (ewS ek1) eeN bt cf (p + a).toNat sg (k - a).toNat).2 ((zr - zr) / 16).toNat) := by rw [hk30]; exact lp1k8
          have hok32c := hok32.cur
          have lp29 : ∀ (fu : Nat) (h33 : gH) (z2 : Int) (wv2 : Int) (uv2 : Int) (bv2 : Int), (z2 + 1).toNat < fu → gSs rT 1027 ty [1059, 1061, 1062, 32999] h h33 → (0 ≤ z2 ∧ z2 ≤ 63) → (0 ≤ wv2 ∧ wv2 ≤ 60000) → (0 ≤ uv2 ∧ uv2 ≤ 127) → (0 ≤ bv2 ∧ bv2 ≤ 7) → (z2 ≤ zr) → ((zr - z2) % 16 = 0) → (wv2 = (eeZ (ewS ek1) (eeO (ewS ek1) eeN bt cf (p + a).toNat sg (k - a).toNat).2 ((zr - z2) / 16).toNat).1) → (uv2 = (eeZ (ewS ek1) (eeO (ewS ek1) eeN bt cf (p + a).toNat sg (k - a).toNat).2 ((zr - z2) / 16).toNat).2.1) → (bv2 = (eeZ (ewS ek1) (eeO (ewS ek1) eeN bt cf (p + a).toNat sg (k - a).toNat).2 ((zr - z2) / 16).toNat).2.2.1) → (4 * wv2 + bv2 + 35 * z2 ≤ 4 * w0 + b0 + 35 * (k - a)) → (w0 ≤ wv2) → h33.2.2.2.2 m 67 = .int (zi ic) → h33.2.2.2.2 m 64 = .int (zi mb) → h33.2.2.2.2 m 59 = .int (zi wv2) → h33.2.2.2.2 m 61 = .int (zi uv2) → h33.2.2.2.2 m 62 = .int (zi bv2) → gTk (True) 1 ty ek1 h33 → gRn (64 * mb).toNat ty 33 cf h33 → gSO ty (eeZ (ewS ek1) (eeO (ewS ek1) eeN bt cf (p + a).toNat sg (k - a).toNat).2 ((zr - z2) / 16).toNat) h33 → eeOk (eeZ (ewS ek1) (eeO (ewS ek1) eeN bt cf (p + a).toNat sg (k - a).toNat).2 ((zr - z2) / 16).toNat) → gz gPP gGG gcn (d + 3) gt197 35 [some (.ref m), some (.int (zi p)), some (.int (zi a)), some (.int (zi b)), some (.int (zi bt)), some (.int (zi z2)), some (.int (zi k)), some (.int (zi zq19)), none] [] h33 (fun q _ => gSs rT 1027 ty [1059, 1061, 1062, 32999] h q.2.2 ∧ ∃ w1 u1 b1 : Int, gfin gt197 q.1 q.2.1 = some none ∧ q.2.2.2.2.2.2 m 59 = .int (zi w1) ∧ 0 ≤ w1 ∧ w1 ≤ 60000 ∧ q.2.2.2.2.2.2 m 61 = .int (zi u1) ∧ 0 ≤ u1 ∧ u1 ≤ 127 ∧ q.2.2.2.2.2.2 m 62 = .int (zi b1) ∧ 0 ≤ b1 ∧ b1 ≤ 7 ∧ (w1 = (eeOt (ewS ek1) eeN bt cf (p + a).toNat (b - a + 1).toNat sg).1) ∧ (u1 = (eeOt (ewS ek1) eeN bt cf (p + a).toNat (b - a + 1).toNat sg).2.1) ∧ (b1 = (eeOt (ewS ek1) eeN bt cf (p + a).toNat (b - a + 1).toNat sg).2.2.1) ∧ (4 * w1 + b1 ≤ 4 * w0 + b0 + (35 * (b - a + 1) + 22)) ∧ (w0 ≤ w1) ∧ (gSO ty (eeOt (ewS ek1) eeN bt cf (p + a).toNat (b - a + 1).toNat sg) q.2.2) ∧ (eeOk (eeOt (ewS ek1) eeN bt cf (p + a).toNat (b - a + 1).toNat sg))) := by
            intro fu
            induction fu with
            | zero => intro h33 z2 wv2 uv2 bv2 hm; exact absurd hm (Nat.not_lt_zero _)
            | succ fu ihlp29 =>
              intro h33 z2 wv2 uv2 bv2 lp29m sh33 lp29f0 lp29f1 lp29f2 lp29f3 lp29f4 lp29f5 lp29f6 lp29f7 lp29f8 lp29f9 lp29f10 lp29k0 lp29k1 lp29k2 lp29k3 lp29k4 lp29k5 lp29k6 lp29k7 lp29k8
              refine gz_s 2 (pc' := 39) (L' := [some (.ref m), some (.int (zi p)), some (.int (zi a)), some (.int (zi b)), some (.int (zi bt)), some (.int (zi z2)), some (.int (zi k)), some (.int (zi zq19)), none]) (S' := [.int (zi 15), .int (zi z2)]) rfl ?_
              by_cases hc34 : (z2 : Int) ≤ 15
              · refine gy_icT (pc' := 60) rfl (by decide) (by decide) (by omega) (by omega) hc34 ?_
                refine gz_s 1 (pc' := 62) (L' := [some (.ref m), some (.int (zi p)), some (.int (zi a)), some (.int (zi b)), some (.int (zi bt)), some (.int (zi z2)), some (.int (zi k)), some (.int (zi zq19)), none]) (S' := [.int (zi zq19)]) rfl ?_
                refine gz_call rfl (by decide) rfl (by decide) (by decide) (gcal_of rfl rfl rfl (Nat.le_of_ble_eq_true rfl) rfl) (mw_sizeOfNumber _ sh33.1 zq19 (by omega) ) (fun q35 _ wq35 => ?_)
                obtain ⟨pq35, oq35, hq35⟩ := q35
                obtain ⟨xq35, zq35, gq35, aq35, bq35, uq35_0⟩ := wq35
                refine ⟨_, gq35, ?_⟩
                show gz gPP gGG gcn _ _ 65 [some (.ref m), some (.int (zi p)), some (.int (zi a)), some (.int (zi b)), some (.int (zi bt)), some (.int (zi z2)), some (.int (zi k)), some (.int (zi zq19)), none] [.int (zi zq35)] hq35 _
                have sq35 := gSs.tr sh33 xq35 (by decide)
                have s36 := (xq35.2.2.2.2.2 m 67 (by rw [tm]; decide)).trans lp29k0
                have s37 := (xq35.2.2.2.2.2 m 64 (by rw [tm]; decide)).trans lp29k1
                have s38 := (xq35.2.2.2.2.2 m 59 (by rw [tm]; decide)).trans lp29k2
                have s39 := (xq35.2.2.2.2.2 m 61 (by rw [tm]; decide)).trans lp29k3
                have s40 := (xq35.2.2.2.2.2 m 62 (by rw [tm]; decide)).trans lp29k4
                have pr41 := gTk.fr xq35.2 (by decide) (by decide) lp29k5
                have pr42 := gRn.fr xq35.2 (by decide) lp29k6
                have pr43 := gSO.fr xq35.2 (by decide) lp29k7
                have hbz : zq35 = eeL (eeA zq19) := uq35_0
                have hlb := eeL_b (eeA zq19)
                refine gy_s 8 (pc' := 77) (L' := [some (.ref m), some (.int (zi p)), some (.int (zi a)), some (.int (zi b)), some (.int (zi bt)), some (.int (zi z2)), some (.int (zi k)), some (.int (zi zq19)), some (.int (zi zq35))]) (S' := [.int (((zi 16) * (zi z2)) + (zi zq35)), .int (zi 1), .ref m]) (L2 := [some (.ref m), some (.int (zi p)), some (.int (zi a)), some (.int (zi b)), some (.int (zi bt)), some (.int (zi z2)), some (.int (zi k)), some (.int (zi zq19)), some (.int (zi zq35))]) (S2 := [.int (zi ((16 * z2) + zq35)), .int (zi 1), .ref m]) rfl (by simp only [zi_add, zi_sub, zi_mul, zi_neg, zi_and1, zi_and7, zi_and15, zi_and31, zi_and255]) (by simp only [zi_add, zi_sub, zi_mul, zi_neg, zi_and1, zi_and7, zi_and15, zi_and31, zi_and255]) ?_
                refine gz_call rfl (by decide) rfl (by decide) (by decide) (gcal_of rfl rfl rfl (Nat.le_of_ble_eq_true rfl) (gJ.recv (G := gGG) sq35.1 tm rfl rfl)) (mw_putSymbol1 _ sq35.1 m tm 1 (by omega) ((16 * z2) + zq35) (by omega) wv2 s38 (by omega) uv2 s39 (by omega) bv2 s40 (by omega) ic s36 (by omega) (eeZ (ewS ek1) (eeO (ewS ek1) eeN bt cf (p + a).toNat sg (k - a).toNat).2 ((zr - z2) / 16).toNat) ek1 (by omega) (by omega) (by omega) (by omega) uq pr43 lp29k8 pr41) (fun q44 _ wq44 => ?_)
                obtain ⟨pq44, oq44, hq44⟩ := q44
                obtain ⟨xq44, fq44_0, fq44_1, fq44_2, gq44, efq44_0, afq44_0, bfq44_0, efq44_1, afq44_1, bfq44_1, efq44_2, afq44_2, bfq44_2, uq44_0, uq44_1, uq44_2, uq44_3, uq44_4, yq44_0, yq44_1⟩ := wq44
                refine ⟨_, gq44, ?_⟩
                show gz gPP gGG gcn _ _ 80 [some (.ref m), some (.int (zi p)), some (.int (zi a)), some (.int (zi b)), some (.int (zi bt)), some (.int (zi z2)), some (.int (zi k)), some (.int (zi zq19)), some (.int (zi zq35))] [] hq44 _
                have sq44 := gSs.tr sq35 xq44 (by decide)
                have s45 := (xq44.2.2.2.2.2 m 67 (by rw [tm]; decide)).trans s36
                have s46 := (xq44.2.2.2.2.2 m 64 (by rw [tm]; decide)).trans s37
                have pr47 := gTk.fr xq44.2 (by decide) (by decide) pr41
                have pr48 := gRn.fr xq44.2 (by decide) pr42
                refine gz_s 3 (pc' := 85) (L' := [some (.ref m), some (.int (zi p)), some (.int (zi a)), some (.int (zi b)), some (.int (zi bt)), some (.int (zi z2)), some (.int (zi k)), some (.int (zi zq19)), some (.int (zi zq35))]) (S' := [.int (zi zq35), .int (zi zq19), .ref m]) rfl ?_
                refine gz_call rfl (by decide) rfl (by decide) (by decide) (gcal_of rfl rfl rfl (Nat.le_of_ble_eq_true rfl) (gJ.recv (G := gGG) sq44.1 tm rfl rfl)) (mw_putNumber _ sq44.1 m tm zq19 (by omega) zq35 (by omega) fq44_0 efq44_0 (by omega) fq44_1 efq44_1 (by omega) fq44_2 efq44_2 (by omega) ic s45 (by omega) (ewS ek1 ((16 * z2) + zq35) (eeZ (ewS ek1) (eeO (ewS ek1) eeN bt cf (p + a).toNat sg (k - a).toNat).2 ((zr - z2) / 16).toNat)) (by omega) (by omega) (by omega) (by omega) uq yq44_0 yq44_1) (fun q49 _ wq49 => ?_)
                obtain ⟨pq49, oq49, hq49⟩ := q49
                obtain ⟨xq49, fq49_0, fq49_1, fq49_2, gq49, efq49_0, afq49_0, bfq49_0, efq49_1, afq49_1, bfq49_1, efq49_2, afq49_2, bfq49_2, uq49_0, uq49_1, uq49_2, uq49_3, uq49_4, yq49_0, yq49_1⟩ := wq49
                refine ⟨_, gq49, ?_⟩
                show gz gPP gGG gcn _ _ 88 [some (.ref m), some (.int (zi p)), some (.int (zi a)), some (.int (zi b)), some (.int (zi bt)), some (.int (zi z2)), some (.int (zi k)), some (.int (zi zq19)), some (.int (zi zq35))] [] hq49 _
                have sq49 := gSs.tr sq44 xq49 (by decide)
                have s50 := (xq49.2.2.2.2.2 m 67 (by rw [tm]; decide)).trans s45
                have s51 := (xq49.2.2.2.2.2 m 64 (by rw [tm]; decide)).trans s46
                have pr52 := gTk.fr xq49.2 (by decide) (by decide) pr47
                have pr53 := gRn.fr xq49.2 (by decide) pr48
                refine gz_s 2 (pc' := 91) (L' := [some (.ref m), some (.int (zi p)), some (.int (zi a)), some (.int (zi b)), some (.int (zi bt)), some (.int (zi 0)), some (.int (zi k)), some (.int (zi zq19)), some (.int (zi zq35))]) (S' := []) rfl ?_
                have hO : eeO (ewS ek1) eeN bt cf (p + a).toNat sg ((k + 1) - a).toNat = (0, eeN (if zq19 < 0 then zq19 - 1 else zq19) zq35.toNat (ewS ek1 ((16 * z2) + zq35) (eeZ (ewS ek1) (eeO (ewS ek1) eeN bt cf (p + a).toNat sg (k - a).toNat).2 ((zr - z2) / 16).toNat))) := by
                  have hz0 : ¬ eeA zq19 = 0 := by unfold eeA; split <;> omega
                  have hzA : eeA zq19 = if zq19 < 0 then -zq19 else zq19 := rfl
                  have hv9 : (cf (p + k).toNat < 0) ↔ zq19 < 0 := by constructor <;> intro h9 <;> omega
                  rw [hkj, eeO_y (a := eeA zq19) (r := zr) (s := (16 * z2) + zq35) (V := if zq19 < 0 then zq19 - 1 else zq19) (N := zq35) (m := ((zr - z2) / 16).toNat) hcf (by rw [hA]) hz0 (by omega) (by omega) (by omega) (by simp only [hv9]; split <;> omega) (by omega)]
                have hO1 : (eeO (ewS ek1) eeN bt cf (p + a).toNat sg ((k + 1) - a).toNat).1 = 0 := by rw [hO]
                have hk54 : (eeO (ewS ek1) eeN bt cf (p + a).toNat sg ((k + 1) - a).toNat).2 = eeN (if zq19 < 0 then zq19 - 1 else zq19) zq35.toNat (ewS ek1 ((16 * z2) + zq35) (eeZ (ewS ek1) (eeO (ewS ek1) eeN bt cf (p + a).toNat sg (k - a).toNat).2 ((zr - z2) / 16).toNat)) := by rw [hO]
                have hk54_1 : ((eeO (ewS ek1) eeN bt cf (p + a).toNat sg ((k + 1) - a).toNat).2).1 = (eeN (if zq19 < 0 then zq19 - 1 else zq19) zq35.toNat (ewS ek1 ((16 * z2) + zq35) (eeZ (ewS ek1) (eeO (ewS ek1) eeN bt cf (p + a).toNat sg (k - a).toNat).2 ((zr - z2) / 16).toNat))).1 := by rw [hk54]
                have hk54_21 : ((eeO (ewS ek1) eeN bt cf (p + a).toNat sg ((k + 1) - a).toNat).2).2.1 = (eeN (if zq19 < 0 then zq19 - 1 else zq19) zq35.toNat (ewS ek1 ((16 * z2) + zq35) (eeZ (ewS ek1) (eeO (ewS ek1) eeN bt cf (p + a).toNat sg (k - a).toNat).2 ((zr - z2) / 16).toNat))).2.1 := by rw [hk54]
                have hk54_221 : ((eeO (ewS ek1) eeN bt cf (p + a).toNat sg ((k + 1) - a).toNat).2).2.2.1 = (eeN (if zq19 < 0 then zq19 - 1 else zq19) zq35.toNat (ewS ek1 ((16 * z2) + zq35) (eeZ (ewS ek1) (eeO (ewS ek1) eeN bt cf (p + a).toNat sg (k - a).toNat).2 ((zr - z2) / 16).toNat))).2.2.1 := by rw [hk54]
                have hso55 : gSO ty ((eeO (ewS ek1) eeN bt cf (p + a).toNat sg ((k + 1) - a).toNat).2) hq49 := by rw [hk54]; exact yq49_0
                have hok56 : eeOk ((eeO (ewS ek1) eeN bt cf (p + a).toNat sg ((k + 1) - a).toNat).2) := by rw [hk54]; exact yq49_1
                have hok56c := hok56.cur
                refine gy_s 2 (pc' := 6) (L' := [some (.ref m), some (.int (zi p)), some (.int (zi a)), some (.int (zi b)), some (.int (zi bt)), some (.int (zi 0)), some (.int ((zi k) + zi 1)), some (.int (zi zq19)), some (.int (zi zq35))]) (S' := []) (L2 := [some (.ref m), some (.int (zi p)), some (.int (zi a)), some (.int (zi b)), some (.int (zi bt)), some (.int (zi 0)), some (.int (zi (k + 1))), some (.int (zi zq19)), some (.int (zi zq35))]) (S2 := []) rfl (by simp only [zi_add, zi_sub, zi_mul, zi_neg, zi_and1, zi_and7, zi_and15, zi_and31, zi_and255]) (by simp only [zi_add, zi_sub, zi_mul, zi_neg, zi_and1, zi_and7, zi_and15, zi_and31, zi_and255]) ?_
                exact gz_wk (ihlp1 hq49 0 (k + 1) fq49_0 fq49_1 fq49_2 (by omega) sq49 (by omega) (by omega) (by omega) (by omega) (by omega) (by omega) (by omega) (by omega) (by omega) (by omega) (by omega) (by omega) (by omega) (by omega) s50 s51 efq49_0 efq49_1 efq49_2 pr52 pr53 hso55 hok56) (gLw.s (gLw.s (gLw.s (gLw.s (gLw.s (gLw.s (gLw.s (gLw.n (gLw.n gLw.z)))))))))
              · refine gy_icF rfl (by decide) (by decide) (by omega) (by omega) hc34 ?_
                refine gz_s 3 (pc' := 47) (L' := [some (.ref m), some (.int (zi p)), some (.int (zi a)), some (.int (zi b)), some (.int (zi bt)), some (.int (zi z2)), some (.int (zi k)), some (.int (zi zq19)), none]) (S' := [.int (zi 240), .int (zi 1), .ref m]) rfl ?_
                refine gz_call rfl (by decide) rfl (by decide) (by decide) (gcal_of rfl rfl rfl (Nat.le_of_ble_eq_true rfl) (gJ.recv (G := gGG) sh33.1 tm rfl rfl)) (mw_putSymbol1 _ sh33.1 m tm 1 (by omega) 240 (by omega) wv2 lp29k2 (by omega) uv2 lp29k3 (by omega) bv2 lp29k4 (by omega) ic lp29k0 (by omega) (eeZ (ewS ek1) (eeO (ewS ek1) eeN bt cf (p + a).toNat sg (k - a).toNat).2 ((zr - z2) / 16).toNat) ek1 (by omega) (by omega) (by omega) (by omega) uq lp29k7 lp29k8 lp29k5) (fun q57 _ wq57 => ?_)
                obtain ⟨pq57, oq57, hq57⟩ := q57
                obtain ⟨xq57, fq57_0, fq57_1, fq57_2, gq57, efq57_0, afq57_0, bfq57_0, efq57_1, afq57_1, bfq57_1, efq57_2, afq57_2, bfq57_2, uq57_0, uq57_1, uq57_2, uq57_3, uq57_4, yq57_0, yq57_1⟩ := wq57
                refine ⟨_, gq57, ?_⟩
                show gz gPP gGG gcn _ _ 50 [some (.ref m), some (.int (zi p)), some (.int (zi a)), some (.int (zi b)), some (.int (zi bt)), some (.int (zi z2)), some (.int (zi k)), some (.int (zi zq19)), none] [] hq57 _
                have sq57 := gSs.tr sh33 xq57 (by decide)
                have s58 := (xq57.2.2.2.2.2 m 67 (by rw [tm]; decide)).trans lp29k0
                have s59 := (xq57.2.2.2.2.2 m 64 (by rw [tm]; decide)).trans lp29k1
                have pr60 := gTk.fr xq57.2 (by decide) (by decide) lp29k5
                have pr61 := gRn.fr xq57.2 (by decide) lp29k6
                refine gy_s 4 (pc' := 57) (L' := [some (.ref m), some (.int (zi p)), some (.int (zi a)), some (.int (zi b)), some (.int (zi bt)), some (.int ((zi z2) - (zi 16))), some (.int (zi k)), some (.int (zi zq19)), none]) (S' := []) (L2 := [some (.ref m), some (.int (zi p)), some (.int (zi a)), some (.int (zi b)), some (.int (zi bt)), some (.int (zi (z2 - 16))), some (.int (zi k)), some (.int (zi zq19)), none]) (S2 := []) rfl (by simp only [zi_add, zi_sub, zi_mul, zi_neg, zi_and1, zi_and7, zi_and15, zi_and31, zi_and255]) (by simp only [zi_add, zi_sub, zi_mul, zi_neg, zi_and1, zi_and7, zi_and15, zi_and31, zi_and255]) ?_
                have hk62 : eeZ (ewS ek1) (eeO (ewS ek1) eeN bt cf (p + a).toNat sg (k - a).toNat).2 ((zr - (z2 - 16)) / 16).toNat = ewS ek1 240 (eeZ (ewS ek1) (eeO (ewS ek1) eeN bt cf (p + a).toNat sg (k - a).toNat).2 ((zr - z2) / 16).toNat) := eeZ_1 (by omega)
                have hk62_1 : (eeZ (ewS ek1) (eeO (ewS ek1) eeN bt cf (p + a).toNat sg (k - a).toNat).2 ((zr - (z2 - 16)) / 16).toNat).1 = (ewS ek1 240 (eeZ (ewS ek1) (eeO (ewS ek1) eeN bt cf (p + a).toNat sg (k - a).toNat).2 ((zr - z2) / 16).toNat)).1 := by rw [hk62]
                have hk62_21 : (eeZ (ewS ek1) (eeO (ewS ek1) eeN bt cf (p + a).toNat sg (k - a).toNat).2 ((zr - (z2 - 16)) / 16).toNat).2.1 = (ewS ek1 240 (eeZ (ewS ek1) (eeO (ewS ek1) eeN bt cf (p + a).toNat sg (k - a).toNat).2 ((zr - z2) / 16).toNat)).2.1 := by rw [hk62]
                have hk62_221 : (eeZ (ewS ek1) (eeO (ewS ek1) eeN bt cf (p + a).toNat sg (k - a).toNat).2 ((zr - (z2 - 16)) / 16).toNat).2.2.1 = (ewS ek1 240 (eeZ (ewS ek1) (eeO (ewS ek1) eeN bt cf (p + a).toNat sg (k - a).toNat).2 ((zr - z2) / 16).toNat)).2.2.1 := by rw [hk62]
                have hso63 : gSO ty (eeZ (ewS ek1) (eeO (ewS ek1) eeN bt cf (p + a).toNat sg (k - a).toNat).2 ((zr - (z2 - 16)) / 16).toNat) hq57 := by rw [hk62]; exact yq57_0
                have hok64 : eeOk (eeZ (ewS ek1) (eeO (ewS ek1) eeN bt cf (p + a).toNat sg (k - a).toNat).2 ((zr - (z2 - 16)) / 16).toNat) := by rw [hk62]; exact yq57_1
                have hok64c := hok64.cur
                refine gz_s 1 (pc' := 35) (L' := [some (.ref m), some (.int (zi p)), some (.int (zi a)), some (.int (zi b)), some (.int (zi bt)), some (.int (zi (z2 - 16))), some (.int (zi k)), some (.int (zi zq19)), none]) (S' := []) rfl ?_
                exact gz_wk (ihlp29 hq57 (z2 - 16) fq57_0 fq57_1 fq57_2 (by omega) sq57 (by omega) (by omega) (by omega) (by omega) (by omega) (by omega) (by omega) (by omega) (by omega) (by omega) (by omega) s58 s59 efq57_0 efq57_1 efq57_2 pr60 pr61 hso63 hok64) (gLw.s (gLw.s (gLw.s (gLw.s (gLw.s (gLw.s (gLw.s (gLw.s (gLw.n gLw.z)))))))))
          exact gz_wk (lp29 _ hq19 zr wv uv bv (Nat.lt_succ_self _) sq19 (by omega) (by omega) (by omega) (by omega) (by omega) (by omega) (by omega) (by omega) (by omega) (by omega) (by omega) s20 s21 s22 s23 s24 pr25 pr26 hso31 hok32) (gLw.s (gLw.s (gLw.s (gLw.s (gLw.s (gLw.s (gLw.s (gLw.s (gLw.n gLw.z)))))))))
        · refine gy_ifF rfl (by decide) (by decide) (by omega) hc28 ?_
          refine gy_s 2 (pc' := 91) (L' := [some (.ref m), some (.int (zi p)), some (.int (zi a)), some (.int (zi b)), some (.int (zi bt)), some (.int ((zi zr) + zi 1)), some (.int (zi k)), some (.int (zi zq19)), none]) (S' := []) (L2 := [some (.ref m), some (.int (zi p)), some (.int (zi a)), some (.int (zi b)), some (.int (zi bt)), some (.int (zi (zr + 1))), some (.int (zi k)), some (.int (zi zq19)), none]) (S2 := []) rfl (by simp only [zi_add, zi_sub, zi_mul, zi_neg, zi_and1, zi_and7, zi_and15, zi_and31, zi_and255]) (by simp only [zi_add, zi_sub, zi_mul, zi_neg, zi_and1, zi_and7, zi_and15, zi_and31, zi_and255]) ?_
          have hO : eeO (ewS ek1) eeN bt cf (p + a).toNat sg ((k + 1) - a).toNat = (zr + 1, (eeO (ewS ek1) eeN bt cf (p + a).toNat sg (k - a).toNat).2) := by rw [hkj, eeO_z hcf (by rw [← hA, show zq19 = 0 by omega]; rfl)]; rw [show (eeO (ewS ek1) eeN bt cf (p + a).toNat sg (k - a).toNat).1 = zr by omega]
          have hO1 : (eeO (ewS ek1) eeN bt cf (p + a).toNat sg ((k + 1) - a).toNat).1 = zr + 1 := by rw [hO]
          have hk65 : (eeO (ewS ek1) eeN bt cf (p + a).toNat sg ((k + 1) - a).toNat).2 = (eeO (ewS ek1) eeN bt cf (p + a).toNat sg (k - a).toNat).2 := by rw [hO]
          have hk65_1 : ((eeO (ewS ek1) eeN bt cf (p + a).toNat sg ((k + 1) - a).toNat).2).1 = ((eeO (ewS ek1) eeN bt cf (p + a).toNat sg (k - a).toNat).2).1 := by rw [hk65]
          have hk65_21 : ((eeO (ewS ek1) eeN bt cf (p + a).toNat sg ((k + 1) - a).toNat).2).2.1 = ((eeO (ewS ek1) eeN bt cf (p + a).toNat sg (k - a).toNat).2).2.1 := by rw [hk65]
          have hk65_221 : ((eeO (ewS ek1) eeN bt cf (p + a).toNat sg ((k + 1) - a).toNat).2).2.2.1 = ((eeO (ewS ek1) eeN bt cf (p + a).toNat sg (k - a).toNat).2).2.2.1 := by rw [hk65]
          have hso66 : gSO ty ((eeO (ewS ek1) eeN bt cf (p + a).toNat sg ((k + 1) - a).toNat).2) hq19 := by rw [hk65]; exact pr27
          have hok67 : eeOk ((eeO (ewS ek1) eeN bt cf (p + a).toNat sg ((k + 1) - a).toNat).2) := by rw [hk65]; exact lp1k8
          have hok67c := hok67.cur
          refine gy_s 2 (pc' := 6) (L' := [some (.ref m), some (.int (zi p)), some (.int (zi a)), some (.int (zi b)), some (.int (zi bt)), some (.int (zi (zr + 1))), some (.int ((zi k) + zi 1)), some (.int (zi zq19)), none]) (S' := []) (L2 := [some (.ref m), some (.int (zi p)), some (.int (zi a)), some (.int (zi b)), some (.int (zi bt)), some (.int (zi (zr + 1))), some (.int (zi (k + 1))), some (.int (zi zq19)), none]) (S2 := []) rfl (by simp only [zi_add, zi_sub, zi_mul, zi_neg, zi_and1, zi_and7, zi_and15, zi_and31, zi_and255]) (by simp only [zi_add, zi_sub, zi_mul, zi_neg, zi_and1, zi_and7, zi_and15, zi_and31, zi_and255]) ?_
          exact gz_wk (ihlp1 hq19 (zr + 1) (k + 1) wv uv bv (by omega) sq19 (by omega) (by omega) (by omega) (by omega) (by omega) (by omega) (by omega) (by omega) (by omega) (by omega) (by omega) (by omega) (by omega) (by omega) s20 s21 s22 s23 s24 pr25 pr26 hso66 hok67) (gLw.s (gLw.s (gLw.s (gLw.s (gLw.s (gLw.s (gLw.s (gLw.n (gLw.n gLw.z)))))))))
  have hk00 : (eeO (ewS ek1) eeN bt cf (p + a).toNat sg (a - a).toNat).1 = 0 := by rw [show (a - a).toNat = 0 by omega]; rfl
  exact gz_wk (lp1 _ h 0 a w0 u0 b0 (Nat.lt_succ_self _) hS (by omega) (by omega) (by omega) (by omega) (by omega) (by omega) (by omega) (by omega) (by omega) (by omega) (by omega) (by omega) (by omega) (by omega) eic emb ew0 eu0 eb0 hytk1 hyf33 hso3 hok4) (gLw.s (gLw.s (gLw.s (gLw.s (gLw.s (gLw.s (gLw.s (gLw.n (gLw.n gLw.z)))))))))
