/-! ===== methods of the landed text (by program) ===== -/
theorem gF_wr {f : Nat → Int} {off bits s : Int} : gF f off bits s ≤ gF f off (bits + 1) 0 := by
  unfold gF
  have key : ∀ n, gsf (fun j => if f (off.toNat + j) < bits ∨ (f (off.toNat + j) = bits ∧ (j : Int) < s) then (1 : Int) else 0) n ≤ gsf (fun j => if f (off.toNat + j) < bits + 1 ∨ (f (off.toNat + j) = bits + 1 ∧ (j : Int) < 0) then (1 : Int) else 0) n := by
    intro n
    induction n with
    | zero => exact Int.le_refl _
    | succ n ih =>
      show gsf _ n + _ ≤ gsf _ n + _
      have h1 : (if f (off.toNat + n) < bits ∨ (f (off.toNat + n) = bits ∧ (n : Int) < s) then (1 : Int) else 0) ≤ (if f (off.toNat + n) < bits + 1 ∨ (f (off.toNat + n) = bits + 1 ∧ (n : Int) < 0) then (1 : Int) else 0) := by
        by_cases c1 : f (off.toNat + n) < bits ∨ (f (off.toNat + n) = bits ∧ (n : Int) < s)
        · rw [if_pos c1, if_pos (Or.inl (by omega))]
          exact Int.le_refl _
        · rw [if_neg c1]
          split <;> decide
      exact Int.add_le_add ih h1
  exact key 256
def gUs (ty : Nat → Nat) (q : Nat) (n s : Int) (h : gH) : Prop := ∃ u : Nat → Int, gRow ty q u h ∧ gInc u n s
theorem gUs.fr {ty : Nat → Nat} {q : Nat} {n s : Int} {h h' : gH} {l : List Nat} (g : gFr rT ty l h h') (hl : ¬ (1000 * q + 999) ∈ l) (p : gUs ty q n s h) : gUs ty q n s h' := by
  obtain ⟨u, a, b⟩ := p
  exact ⟨u, a.fr g hl, b⟩
theorem gUs.pt {ty : Nat → Nat} {q c k q2 : Nat} {n s : Int} {h h' : gH} (f : ∀ x j, ¬ (x = c ∧ j = k) → h'.2.2.2.2 x j = h.2.2.2.2 x j) (ht : ty c = q2) (hq : q2 ≠ q) (p : gUs ty q n s h) : gUs ty q n s h' := by
  obtain ⟨u, a, b⟩ := p
  exact ⟨u, a.pt f ht hq, b⟩
set_option maxRecDepth 20000 in
set_option maxHeartbeats 4000000 in
theorem cl_Suited0_forget (d : Nat) {ty : Nat → Nat} {h : gH} (hJ : gJ rT 1027 ty h) (x : Nat) (tx : ty x = 91) (uq : gUq ty) : gz gPP gGG gcn (d + 1) gt105 0 (gent [.ref x] 1) [] h (fun q _ => gSs rT 1027 ty [97999] h q.2.2 ∧ gfin gt105 q.1 q.2.1 = some none) := by
  have hS : gSs rT 1027 ty [97999] h h := gSs.rf hJ
  refine gz_s 1 (pc' := 1) (L' := [some (.ref x)]) (S' := [.ref x]) rfl ?_
  refine gs_gtr rfl (by decide) rfl hS.1 tx rfl rfl rfl (fun c1 ec1 tc1 => ?_)
  refine gz_s 1 (pc' := 5) (L' := [some (.ref x)]) (S' := [.int (zi 0), .ref c1]) rfl ?_
  refine gz_call rfl (by decide) rfl (by decide) (by decide) (gcal_of rfl rfl rfl (Nat.le_of_ble_eq_true rfl) rfl) (cl_fill_weights0 _ hS.1 c1 tc1 0 (by omega) ) (fun q2 _ wq2 => ?_)
  obtain ⟨pq2, oq2, hq2⟩ := q2
  obtain ⟨xq2, gq2⟩ := wq2
  refine ⟨_, gq2, ?_⟩
  show gz gPP gGG gcn _ _ 8 [some (.ref x)] [] hq2 _
  have sq2 : gSs rT 1027 ty [97999] h hq2 := gSs.tr hS xq2 (by decide)
  have s3 := (xq2.2.2.2.2.2 x 5 (by rw [tx]; decide)).trans ec1
  refine gz_s 1 (pc' := 9) (L' := [some (.ref x)]) (S' := [.ref x]) rfl ?_
  refine gs_gtk rfl (by decide) rfl sq2.1 tx rfl rfl s3 ?_
  refine gz_s 2 (pc' := 16) (L' := [some (.ref x)]) (S' := [.int (zi 1), .int (zi 256), .ref c1]) rfl ?_
  have hl4 : 257 ≤ hq2.2.2.2.1 c1 ∧ hq2.2.2.2.1 c1 ≤ 257 := gJ.rowl (G := gGG) sq2.1 tc1 rfl
  refine gs_ast rfl (by decide) sq2 tc1 rfl rfl rfl (by decide) (fun _ => rfl) (by omega) (by omega) (fun _ => (by decide : (97999 : Nat) ∈ ([97999] : List Nat))) (by omega) (by omega) (fun h5 sh5 eh5 fh5 => ?_)
  have s6 := (fh5 x 5 (fun q => absurd (((tx).symm.trans (congrArg ty q.1)).trans tc1) (by decide))).trans s3
  have pr7 := gEl.set (i := 256) (z := 1) uq tc1 (by decide) eh5 (by omega) (by omega)
  exact gz_end (I := .return_) (len := 1) rfl (Or.inl rfl) ⟨sh5, rfl⟩
set_option maxRecDepth 20000 in
set_option maxHeartbeats 4000000 in
theorem cl_Suited0_countSymbol (d : Nat) {ty : Nat → Nat} {h : gH} (hJ : gJ rT 1027 ty h) (x : Nat) (tx : ty x = 91) (s : Int) (rs : (-2147483648) ≤ s ∧ s ≤ 2147483647) (uq : gUq ty) : gz gPP gGG gcn (d + 0) gt116 0 (gent [.ref x, .int (zi s)] 2) [] h (fun q _ => gSs rT 1027 ty [97999] h q.2.2 ∧ gfin gt116 q.1 q.2.1 = some none) := by
  have hS : gSs rT 1027 ty [97999] h h := gSs.rf hJ
  refine gz_s 1 (pc' := 1) (L' := [some (.ref x), some (.int (zi s))]) (S' := [.int (zi s)]) rfl ?_
  by_cases hc1 : (s : Int) < 0
  · refine gy_ifT (pc' := 21) rfl (by decide) (by decide) (by omega) hc1 ?_
    exact gz_end (I := .return_) (len := 1) rfl (Or.inl rfl) ⟨hS, rfl⟩
  · refine gy_ifF rfl (by decide) (by decide) (by omega) hc1 ?_
    refine gz_s 2 (pc' := 8) (L' := [some (.ref x), some (.int (zi s))]) (S' := [.int (zi 256), .int (zi s)]) rfl ?_
    by_cases hc2 : (256 : Int) ≤ s
    · refine gy_icT (pc' := 21) rfl (by decide) (by decide) (by omega) (by omega) hc2 ?_
      exact gz_end (I := .return_) (len := 1) rfl (Or.inl rfl) ⟨hS, rfl⟩
    · refine gy_icF rfl (by decide) (by decide) (by omega) (by omega) hc2 ?_
      refine gz_s 1 (pc' := 12) (L' := [some (.ref x), some (.int (zi s))]) (S' := [.ref x]) rfl ?_
      refine gs_gtr rfl (by decide) rfl hS.1 tx rfl rfl rfl (fun c3 ec3 tc3 => ?_)
      refine gz_s 2 (pc' := 17) (L' := [some (.ref x), some (.int (zi s))]) (S' := [.int (zi s), .ref c3, .int (zi s), .ref c3]) rfl ?_
      have hl4 : 257 ≤ h.2.2.2.1 c3 ∧ h.2.2.2.1 c3 ≤ 257 := gJ.rowl (G := gGG) hS.1 tc3 rfl
      refine gs_ald rfl (by decide) hS.1 tc3 rfl rfl rfl (by decide) (fun _ => rfl) (by omega) (by omega) (fun z5 ez5 az5 bz5 => ?_)
      refine gy_s 2 (pc' := 20) (L' := [some (.ref x), some (.int (zi s))]) (S' := [.int ((zi z5) + (zi 1)), .int (zi s), .ref c3]) (L2 := [some (.ref x), some (.int (zi s))]) (S2 := [.int (zi (z5 + 1)), .int (zi s), .ref c3]) rfl (by simp only [zi_add, zi_sub, zi_mul, zi_neg, zi_and1, zi_and7, zi_and15, zi_and31, zi_and255]) (by simp only [zi_add, zi_sub, zi_mul, zi_neg, zi_and1, zi_and7, zi_and15, zi_and31, zi_and255]) ?_
      have hl6 : 257 ≤ h.2.2.2.1 c3 ∧ h.2.2.2.1 c3 ≤ 257 := gJ.rowl (G := gGG) hS.1 tc3 rfl
      refine gy_any (fun z8 ez8 az8 bz8 => ?_)
      refine gs_ast rfl (by decide) hS tc3 rfl rfl rfl (by decide) (fun _ => rfl) (by omega) (by omega) (fun _ => (by decide : (97999 : Nat) ∈ ([97999] : List Nat))) (by omega) (by omega) (fun h7 sh7 eh7 fh7 => ?_)
      have s9 := (fh7 x 5 (fun q => absurd (((tx).symm.trans (congrArg ty q.1)).trans tc3) (by decide))).trans ec3
      have pr10 := gEl.set (i := s) (z := z8) uq tc3 (by decide) eh7 (by omega) (by omega)
      exact gz_end (I := .return_) (len := 1) rfl (Or.inl rfl) ⟨sh7, rfl⟩
set_option maxRecDepth 20000 in
set_option maxHeartbeats 4000000 in
theorem cl_Suited0_leastGroup (d : Nat) {ty : Nat → Nat} {h : gH} (hJ : gJ rT 1027 ty h) (x : Nat) (tx : ty x = 91) (e : Int) (re : (-1) ≤ e ∧ e ≤ 256) (n : Int) (en : h.2.2.2.2 x 8 = .int (zi n)) (rn : 0 ≤ n ∧ n ≤ 257) (uq : gUq ty) : gz gPP gGG gcn (d + 1) gt123 0 (gent [.ref x, .int (zi e)] 6) [] h (fun q _ => gSs rT 1027 ty [] h q.2.2 ∧ ∃ z : Int, gfin gt123 q.1 q.2.1 = some (some (.int (zi z))) ∧ 0 ≤ z ∧ z ≤ 256) := by
  have hS : gSs rT 1027 ty [] h h := gSs.rf hJ
  refine gz_s 4 (pc' := 4) (L' := [some (.ref x), some (.int (zi e)), some (.int (zi (-1))), some (.int (zi 0)), none, none]) (S' := []) rfl ?_
  have lp1 : ∀ (fu : Nat) (h2 : gH) (ls : Int) (i : Int), (258 - i).toNat < fu → gSs rT 1027 ty [] h h2 → ((-1) ≤ ls ∧ ls ≤ 256) → (0 ≤ i ∧ i ≤ 257) → (i ≤ n) → h2.2.2.2.2 x 8 = .int (zi n) → gz gPP gGG gcn (d + 1) gt123 4 [some (.ref x), some (.int (zi e)), some (.int (zi ls)), some (.int (zi i)), none, none] [] h2 (fun q _ => gSs rT 1027 ty [] h q.2.2 ∧ ∃ z : Int, gfin gt123 q.1 q.2.1 = some (some (.int (zi z))) ∧ 0 ≤ z ∧ z ≤ 256) := by
    intro fu
    induction fu with
    | zero => intro h2 ls i hm; exact absurd hm (Nat.not_lt_zero _)
    | succ fu ihlp1 =>
      intro h2 ls i lp1m sh2 lp1f0 lp1f1 lp1f2 lp1k0
      refine gz_s 2 (pc' := 6) (L' := [some (.ref x), some (.int (zi e)), some (.int (zi ls)), some (.int (zi i)), none, none]) (S' := [.ref x, .int (zi i)]) rfl ?_
      refine gs_gtk rfl (by decide) rfl sh2.1 tx rfl rfl lp1k0 ?_
      by_cases hc3 : (n : Int) ≤ i
      · refine gy_icT (pc' := 77) rfl (by decide) (by decide) (by omega) (by omega) hc3 ?_
        refine gz_s 2 (pc' := 79) (L' := [some (.ref x), some (.int (zi e)), some (.int (zi ls)), some (.int (zi i)), none, none]) (S' := [.int (zi ls), .int (zi 0)]) rfl ?_
        refine gz_call rfl (by decide) rfl (by decide) (by decide) (gcal_of rfl rfl rfl (Nat.le_of_ble_eq_true rfl) rfl) (cl_Math_max _ sh2.1 0 (by omega) ls (by omega) ) (fun q4 _ wq4 => ?_)
        obtain ⟨pq4, oq4, hq4⟩ := q4
        obtain ⟨xq4, zq4, gq4, aq4, bq4, uq4_0, uq4_1, uq4_2⟩ := wq4
        refine ⟨_, gq4, ?_⟩
        show gz gPP gGG gcn _ _ 82 [some (.ref x), some (.int (zi e)), some (.int (zi ls)), some (.int (zi i)), none, none] [.int (zi zq4)] hq4 _
        have sq4 : gSs rT 1027 ty [] h hq4 := gSs.tr sh2 xq4 (by decide)
        have s5 := (xq4.2.2.2.2.2 x 8 (by rw [tx]; decide)).trans lp1k0
        exact gz_end (I := .ireturn) (len := 1) rfl (Or.inl rfl) ⟨sq4, zq4, rfl, (by omega), (by omega)⟩
      · refine gy_icF rfl (by decide) (by decide) (by omega) (by omega) hc3 ?_
        refine gz_s 1 (pc' := 13) (L' := [some (.ref x), some (.int (zi e)), some (.int (zi ls)), some (.int (zi i)), none, none]) (S' := [.ref x]) rfl ?_
        refine gs_gtr rfl (by decide) rfl sh2.1 tx rfl rfl rfl (fun c6 ec6 tc6 => ?_)
        refine gz_s 1 (pc' := 17) (L' := [some (.ref x), some (.int (zi e)), some (.int (zi ls)), some (.int (zi i)), none, none]) (S' := [.int (zi i), .ref c6]) rfl ?_
        have hl7 : 257 ≤ h2.2.2.2.1 c6 ∧ h2.2.2.2.1 c6 ≤ 257 := gJ.rowl (G := gGG) sh2.1 tc6 rfl
        refine gs_ald rfl (by decide) sh2.1 tc6 rfl rfl rfl (by decide) (fun _ => rfl) (by omega) (by omega) (fun z8 ez8 az8 bz8 => ?_)
        refine gz_s 2 (pc' := 21) (L' := [some (.ref x), some (.int (zi e)), some (.int (zi ls)), some (.int (zi i)), some (.int (zi z8)), none]) (S' := [.ref x]) rfl ?_
        refine gs_gtr rfl (by decide) rfl sh2.1 tx rfl rfl rfl (fun c9 ec9 tc9 => ?_)
        refine gz_s 1 (pc' := 26) (L' := [some (.ref x), some (.int (zi e)), some (.int (zi ls)), some (.int (zi i)), some (.int (zi z8)), none]) (S' := [.int (zi z8), .ref c9]) rfl ?_
        have hl10 : 257 ≤ h2.2.2.2.1 c9 ∧ h2.2.2.2.1 c9 ≤ 257 := gJ.rowl (G := gGG) sh2.1 tc9 rfl
        refine gs_ald rfl (by decide) sh2.1 tc9 rfl rfl rfl (by decide) (fun _ => rfl) (by omega) (by omega) (fun z11 ez11 az11 bz11 => ?_)
        have jn12 : ∀ (jn12v0 : Int), ((0 ≤ jn12v0) ∧ (jn12v0 ≤ 1)) → gz gPP gGG gcn (d + 1) gt123 41 [some (.ref x), some (.int (zi e)), some (.int (zi ls)), some (.int (zi i)), some (.int (zi z8)), none] [.int (zi jn12v0)] h2 (fun q _ => gSs rT 1027 ty [] h q.2.2 ∧ ∃ z : Int, gfin gt123 q.1 q.2.1 = some (some (.int (zi z))) ∧ 0 ≤ z ∧ z ≤ 256) := by
          intro jn12v0 jn12d
          refine gz_s 2 (pc' := 45) (L' := [some (.ref x), some (.int (zi e)), some (.int (zi ls)), some (.int (zi i)), some (.int (zi z8)), some (.int (zi jn12v0))]) (S' := [.int (zi jn12v0)]) rfl ?_
          by_cases hc13 : (jn12v0 : Int) = 0
          · refine gy_ifT (pc' := 71) rfl (by decide) (by decide) (by omega) hc13 ?_
            refine gy_s 2 (pc' := 4) (L' := [some (.ref x), some (.int (zi e)), some (.int (zi ls)), some (.int ((zi i) + zi 1)), some (.int (zi z8)), some (.int (zi jn12v0))]) (S' := []) (L2 := [some (.ref x), some (.int (zi e)), some (.int (zi ls)), some (.int (zi (i + 1))), some (.int (zi z8)), some (.int (zi jn12v0))]) (S2 := []) rfl (by simp only [zi_add, zi_sub, zi_mul, zi_neg, zi_and1, zi_and7, zi_and15, zi_and31, zi_and255]) (by simp only [zi_add, zi_sub, zi_mul, zi_neg, zi_and1, zi_and7, zi_and15, zi_and31, zi_and255]) ?_
            exact gz_wk (ihlp1 h2 ls (i + 1) (by omega) sh2 (by omega) (by omega) (by omega) lp1k0) (gLw.s (gLw.s (gLw.s (gLw.s (gLw.n (gLw.n gLw.z))))))
          · refine gy_ifF rfl (by decide) (by decide) (by omega) hc13 ?_
            refine gz_s 1 (pc' := 49) (L' := [some (.ref x), some (.int (zi e)), some (.int (zi ls)), some (.int (zi i)), some (.int (zi z8)), some (.int (zi jn12v0))]) (S' := [.int (zi ls)]) rfl ?_
            by_cases hc14 : (ls : Int) < 0
            · refine gy_ifT (pc' := 68) rfl (by decide) (by decide) (by omega) hc14 ?_
              refine gy_s 4 (pc' := 4) (L' := [some (.ref x), some (.int (zi e)), some (.int (zi z8)), some (.int ((zi i) + zi 1)), some (.int (zi z8)), some (.int (zi jn12v0))]) (S' := []) (L2 := [some (.ref x), some (.int (zi e)), some (.int (zi z8)), some (.int (zi (i + 1))), some (.int (zi z8)), some (.int (zi jn12v0))]) (S2 := []) rfl (by simp only [zi_add, zi_sub, zi_mul, zi_neg, zi_and1, zi_and7, zi_and15, zi_and31, zi_and255]) (by simp only [zi_add, zi_sub, zi_mul, zi_neg, zi_and1, zi_and7, zi_and15, zi_and31, zi_and255]) ?_
              exact gz_wk (ihlp1 h2 z8 (i + 1) (by omega) sh2 (by omega) (by omega) (by omega) lp1k0) (gLw.s (gLw.s (gLw.s (gLw.s (gLw.n (gLw.n gLw.z))))))
            · refine gy_ifF rfl (by decide) (by decide) (by omega) hc14 ?_
              refine gz_s 1 (pc' := 53) (L' := [some (.ref x), some (.int (zi e)), some (.int (zi ls)), some (.int (zi i)), some (.int (zi z8)), some (.int (zi jn12v0))]) (S' := [.ref x]) rfl ?_
              refine gs_gtk rfl (by decide) rfl sh2.1 tx rfl rfl ec9 ?_
              refine gz_s 1 (pc' := 58) (L' := [some (.ref x), some (.int (zi e)), some (.int (zi ls)), some (.int (zi i)), some (.int (zi z8)), some (.int (zi jn12v0))]) (S' := [.int (zi z8), .ref c9]) rfl ?_
              have hl15 : 257 ≤ h2.2.2.2.1 c9 ∧ h2.2.2.2.1 c9 ≤ 257 := gJ.rowl (G := gGG) sh2.1 tc9 rfl
              refine gs_ald rfl (by decide) sh2.1 tc9 rfl rfl rfl (by decide) (fun _ => rfl) (by omega) (by omega) (fun z16 ez16 az16 bz16 => ?_)
              refine gz_s 1 (pc' := 60) (L' := [some (.ref x), some (.int (zi e)), some (.int (zi ls)), some (.int (zi i)), some (.int (zi z8)), some (.int (zi jn12v0))]) (S' := [.ref x, .int (zi z16)]) rfl ?_
              refine gs_gtk rfl (by decide) rfl sh2.1 tx rfl rfl ec9 ?_
              refine gz_s 1 (pc' := 64) (L' := [some (.ref x), some (.int (zi e)), some (.int (zi ls)), some (.int (zi i)), some (.int (zi z8)), some (.int (zi jn12v0))]) (S' := [.int (zi ls), .ref c9, .int (zi z16)]) rfl ?_
              have hl17 : 257 ≤ h2.2.2.2.1 c9 ∧ h2.2.2.2.1 c9 ≤ 257 := gJ.rowl (G := gGG) sh2.1 tc9 rfl
              refine gs_ald rfl (by decide) sh2.1 tc9 rfl rfl rfl (by decide) (fun _ => rfl) (by omega) (by omega) (fun z18 ez18 az18 bz18 => ?_)
              by_cases hc19 : (z18 : Int) < z16
              · refine gy_icT (pc' := 71) rfl (by decide) (by decide) (by omega) (by omega) hc19 ?_
                refine gy_s 2 (pc' := 4) (L' := [some (.ref x), some (.int (zi e)), some (.int (zi ls)), some (.int ((zi i) + zi 1)), some (.int (zi z8)), some (.int (zi jn12v0))]) (S' := []) (L2 := [some (.ref x), some (.int (zi e)), some (.int (zi ls)), some (.int (zi (i + 1))), some (.int (zi z8)), some (.int (zi jn12v0))]) (S2 := []) rfl (by simp only [zi_add, zi_sub, zi_mul, zi_neg, zi_and1, zi_and7, zi_and15, zi_and31, zi_and255]) (by simp only [zi_add, zi_sub, zi_mul, zi_neg, zi_and1, zi_and7, zi_and15, zi_and31, zi_and255]) ?_
                exact gz_wk (ihlp1 h2 ls (i + 1) (by omega) sh2 (by omega) (by omega) (by omega) lp1k0) (gLw.s (gLw.s (gLw.s (gLw.s (gLw.n (gLw.n gLw.z))))))
              · refine gy_icF rfl (by decide) (by decide) (by omega) (by omega) hc19 ?_
                refine gy_s 4 (pc' := 4) (L' := [some (.ref x), some (.int (zi e)), some (.int (zi z8)), some (.int ((zi i) + zi 1)), some (.int (zi z8)), some (.int (zi jn12v0))]) (S' := []) (L2 := [some (.ref x), some (.int (zi e)), some (.int (zi z8)), some (.int (zi (i + 1))), some (.int (zi z8)), some (.int (zi jn12v0))]) (S2 := []) rfl (by simp only [zi_add, zi_sub, zi_mul, zi_neg, zi_and1, zi_and7, zi_and15, zi_and31, zi_and255]) (by simp only [zi_add, zi_sub, zi_mul, zi_neg, zi_and1, zi_and7, zi_and15, zi_and31, zi_and255]) ?_
                exact gz_wk (ihlp1 h2 z8 (i + 1) (by omega) sh2 (by omega) (by omega) (by omega) lp1k0) (gLw.s (gLw.s (gLw.s (gLw.s (gLw.n (gLw.n gLw.z))))))
        by_cases hc20 : (z11 : Int) ≤ 0
        · refine gy_ifT (pc' := 40) rfl (by decide) (by decide) (by omega) hc20 ?_
          refine gz_s 1 (pc' := 41) (L' := [some (.ref x), some (.int (zi e)), some (.int (zi ls)), some (.int (zi i)), some (.int (zi z8)), none]) (S' := [.int (zi 0)]) rfl ?_
          exact jn12 0 (by omega)
        · refine gy_ifF rfl (by decide) (by decide) (by omega) hc20 ?_
          refine gz_s 2 (pc' := 33) (L' := [some (.ref x), some (.int (zi e)), some (.int (zi ls)), some (.int (zi i)), some (.int (zi z8)), none]) (S' := [.int (zi e), .int (zi z8)]) rfl ?_
          by_cases hc21 : (z8 : Int) = e
          · refine gy_icT (pc' := 40) rfl (by decide) (by decide) (by omega) (by omega) hc21 ?_
            refine gz_s 1 (pc' := 41) (L' := [some (.ref x), some (.int (zi e)), some (.int (zi ls)), some (.int (zi i)), some (.int (zi z8)), none]) (S' := [.int (zi 0)]) rfl ?_
            exact jn12 0 (by omega)
          · refine gy_icF rfl (by decide) (by decide) (by omega) (by omega) hc21 ?_
            refine gz_s 2 (pc' := 41) (L' := [some (.ref x), some (.int (zi e)), some (.int (zi ls)), some (.int (zi i)), some (.int (zi z8)), none]) (S' := [.int (zi 1)]) rfl ?_
            exact jn12 1 (by omega)
  exact gz_wk (lp1 _ h (-1) 0 (Nat.lt_succ_self _) hS (by omega) (by omega) (by omega) en) (gLw.s (gLw.s (gLw.s (gLw.s (gLw.n (gLw.n gLw.z))))))
set_option maxRecDepth 20000 in
set_option maxHeartbeats 4000000 in
theorem cl_Suited0_joinGroups (d : Nat) {ty : Nat → Nat} {h : gH} (hJ : gJ rT 1027 ty h) (x : Nat) (tx : ty x = 91) (a : Int) (ra : 0 ≤ a ∧ a ≤ 256) (b : Int) (rb : 0 ≤ b ∧ b ≤ 256) (n : Int) (en : h.2.2.2.2 x 8 = .int (zi n)) (rn : 0 ≤ n ∧ n ≤ 257) (u : Nat → Int) (v : Int) (rv : 0 ≤ v ∧ v ≤ 256) (uq : gUq ty) (hyf99 : gRow ty 99 u h) (hyinc : gInc u n 257) (hylv : gLv ty 96 257 v h) : gz gPP gGG gcn (d + 1) gt124 0 (gent [.ref x, .int (zi a), .int (zi b)] 7) [] h (fun q _ => gSs rT 1027 ty [96999, 97999, 98999] h q.2.2 ∧ gfin gt124 q.1 q.2.1 = some none ∧ (gLv ty 96 257 (v + 1) q.2.2)) := by
  have hS : gSs rT 1027 ty [96999, 97999, 98999] h h := gSs.rf hJ
  refine gz_s 2 (pc' := 2) (L' := [some (.ref x), some (.int (zi a)), some (.int (zi b)), none, none, none, none]) (S' := [.int (zi b), .int (zi a)]) rfl ?_
  refine gz_call rfl (by decide) rfl (by decide) (by decide) (gcal_of rfl rfl rfl (Nat.le_of_ble_eq_true rfl) rfl) (cl_Math_max _ hS.1 a (by omega) b (by omega) ) (fun q1 _ wq1 => ?_)
  obtain ⟨pq1, oq1, hq1⟩ := q1
  obtain ⟨xq1, zq1, gq1, aq1, bq1, uq1_0, uq1_1, uq1_2⟩ := wq1
  refine ⟨_, gq1, ?_⟩
  show gz gPP gGG gcn _ _ 5 [some (.ref x), some (.int (zi a)), some (.int (zi b)), none, none, none, none] [.int (zi zq1)] hq1 _
  have sq1 : gSs rT 1027 ty [96999, 97999, 98999] h hq1 := gSs.tr hS xq1 (by decide)
  have s2 := (xq1.2.2.2.2.2 x 8 (by rw [tx]; decide)).trans en
  have pr3 := gRow.fr xq1.2 (by decide) hyf99
  have pr4 := gLv.fr xq1.2 (by decide) hylv
  refine gz_s 2 (pc' := 7) (L' := [some (.ref x), some (.int (zi a)), some (.int (zi b)), some (.int (zi zq1)), none, none, none]) (S' := [.ref x]) rfl ?_
  refine gs_gtr rfl (by decide) rfl sq1.1 tx rfl rfl rfl (fun c5 ec5 tc5 => ?_)
  refine gz_s 1 (pc' := 11) (L' := [some (.ref x), some (.int (zi a)), some (.int (zi b)), some (.int (zi zq1)), none, none, none]) (S' := [.int (zi a), .ref c5]) rfl ?_
  have hl6 : 257 ≤ hq1.2.2.2.1 c5 ∧ hq1.2.2.2.1 c5 ≤ 257 := gJ.rowl (G := gGG) sq1.1 tc5 rfl
  refine gs_ald rfl (by decide) sq1.1 tc5 rfl rfl rfl (by decide) (fun _ => rfl) (by omega) (by omega) (fun z7 ez7 az7 bz7 => ?_)
  refine gz_s 1 (pc' := 13) (L' := [some (.ref x), some (.int (zi a)), some (.int (zi b)), some (.int (zi zq1)), none, none, none]) (S' := [.ref x, .int (zi z7)]) rfl ?_
  refine gs_gtk rfl (by decide) rfl sq1.1 tx rfl rfl ec5 ?_
  refine gz_s 1 (pc' := 17) (L' := [some (.ref x), some (.int (zi a)), some (.int (zi b)), some (.int (zi zq1)), none, none, none]) (S' := [.int (zi b), .ref c5, .int (zi z7)]) rfl ?_
  have hl8 : 257 ≤ hq1.2.2.2.1 c5 ∧ hq1.2.2.2.1 c5 ≤ 257 := gJ.rowl (G := gGG) sq1.1 tc5 rfl
  refine gs_ald rfl (by decide) sq1.1 tc5 rfl rfl rfl (by decide) (fun _ => rfl) (by omega) (by omega) (fun z9 ez9 az9 bz9 => ?_)
  refine gy_s 1 (pc' := 19) (L' := [some (.ref x), some (.int (zi a)), some (.int (zi b)), some (.int (zi zq1)), none, none, none]) (S' := [.int ((zi z7) + (zi z9))]) (L2 := [some (.ref x), some (.int (zi a)), some (.int (zi b)), some (.int (zi zq1)), none, none, none]) (S2 := [.int (zi (z7 + z9))]) rfl (by simp only [zi_add, zi_sub, zi_mul, zi_neg, zi_and1, zi_and7, zi_and15, zi_and31, zi_and255]) (by simp only [zi_add, zi_sub, zi_mul, zi_neg, zi_and1, zi_and7, zi_and15, zi_and31, zi_and255]) ?_
  refine gy_any (fun z10 ez10 az10 bz10 => ?_)
  refine gz_s 2 (pc' := 22) (L' := [some (.ref x), some (.int (zi a)), some (.int (zi b)), some (.int (zi zq1)), some (.int (zi z10)), none, none]) (S' := [.ref x]) rfl ?_
  refine gs_gtk rfl (by decide) rfl sq1.1 tx rfl rfl ec5 ?_
  refine gz_s 2 (pc' := 27) (L' := [some (.ref x), some (.int (zi a)), some (.int (zi b)), some (.int (zi zq1)), some (.int (zi z10)), none, none]) (S' := [.int (zi 0), .int (zi a), .ref c5]) rfl ?_
  have hl11 : 257 ≤ hq1.2.2.2.1 c5 ∧ hq1.2.2.2.1 c5 ≤ 257 := gJ.rowl (G := gGG) sq1.1 tc5 rfl
  refine gs_ast rfl (by decide) sq1 tc5 rfl rfl rfl (by decide) (fun _ => rfl) (by omega) (by omega) (fun _ => (by decide : (97999 : Nat) ∈ ([96999, 97999, 98999] : List Nat))) (by omega) (by omega) (fun h12 sh12 eh12 fh12 => ?_)
  have pr13 := gRow.pt fh12 tc5 (by decide) pr3
  have pr14 := gLv.pt fh12 tc5 (by decide) pr4
  have s15 := (fh12 x 8 (fun q => absurd (((tx).symm.trans (congrArg ty q.1)).trans tc5) (by decide))).trans s2
  have s16 := (fh12 x 5 (fun q => absurd (((tx).symm.trans (congrArg ty q.1)).trans tc5) (by decide))).trans ec5
  have pr17 := gEl.set (i := a) (z := 0) uq tc5 (by decide) eh12 (by omega) (by omega)
  refine gz_s 1 (pc' := 29) (L' := [some (.ref x), some (.int (zi a)), some (.int (zi b)), some (.int (zi zq1)), some (.int (zi z10)), none, none]) (S' := [.ref x]) rfl ?_
  refine gs_gtk rfl (by decide) rfl sh12.1 tx rfl rfl s16 ?_
  refine gz_s 2 (pc' := 34) (L' := [some (.ref x), some (.int (zi a)), some (.int (zi b)), some (.int (zi zq1)), some (.int (zi z10)), none, none]) (S' := [.int (zi 0), .int (zi b), .ref c5]) rfl ?_
  have hl18 : 257 ≤ h12.2.2.2.1 c5 ∧ h12.2.2.2.1 c5 ≤ 257 := gJ.rowl (G := gGG) sh12.1 tc5 rfl
  refine gs_ast rfl (by decide) sh12 tc5 rfl rfl rfl (by decide) (fun _ => rfl) (by omega) (by omega) (fun _ => (by decide : (97999 : Nat) ∈ ([96999, 97999, 98999] : List Nat))) (by omega) (by omega) (fun h19 sh19 eh19 fh19 => ?_)
  have pr20 := gRow.pt fh19 tc5 (by decide) pr13
  have pr21 := gLv.pt fh19 tc5 (by decide) pr14
  have s22 := (fh19 x 8 (fun q => absurd (((tx).symm.trans (congrArg ty q.1)).trans tc5) (by decide))).trans s15
  have s23 := (fh19 x 5 (fun q => absurd (((tx).symm.trans (congrArg ty q.1)).trans tc5) (by decide))).trans s16
  have pr24 := gEl.set (i := b) (z := 0) uq tc5 (by decide) eh19 (by omega) (by omega)
  refine gz_s 1 (pc' := 36) (L' := [some (.ref x), some (.int (zi a)), some (.int (zi b)), some (.int (zi zq1)), some (.int (zi z10)), none, none]) (S' := [.ref x]) rfl ?_
  refine gs_gtk rfl (by decide) rfl sh19.1 tx rfl rfl s23 ?_
  refine gz_s 2 (pc' := 42) (L' := [some (.ref x), some (.int (zi a)), some (.int (zi b)), some (.int (zi zq1)), some (.int (zi z10)), none, none]) (S' := [.int (zi z10), .int (zi zq1), .ref c5]) rfl ?_
  have hl25 : 257 ≤ h19.2.2.2.1 c5 ∧ h19.2.2.2.1 c5 ≤ 257 := gJ.rowl (G := gGG) sh19.1 tc5 rfl
  refine gs_ast rfl (by decide) sh19 tc5 rfl rfl rfl (by decide) (fun _ => rfl) (by omega) (by omega) (fun _ => (by decide : (97999 : Nat) ∈ ([96999, 97999, 98999] : List Nat))) (by omega) (by omega) (fun h26 sh26 eh26 fh26 => ?_)
  have pr27 := gRow.pt fh26 tc5 (by decide) pr20
  have pr28 := gLv.pt fh26 tc5 (by decide) pr21
  have s29 := (fh26 x 8 (fun q => absurd (((tx).symm.trans (congrArg ty q.1)).trans tc5) (by decide))).trans s22
  have s30 := (fh26 x 5 (fun q => absurd (((tx).symm.trans (congrArg ty q.1)).trans tc5) (by decide))).trans s23
  have pr31 := gEl.set (i := zq1) (z := z10) uq tc5 (by decide) eh26 (by omega) (by omega)
  refine gz_s 2 (pc' := 46) (L' := [some (.ref x), some (.int (zi a)), some (.int (zi b)), some (.int (zi zq1)), some (.int (zi z10)), some (.int (zi 0)), none]) (S' := []) rfl ?_
  have hlj33 : gLj ty 96 0 v h26 := gLj.of pr28
  have lp32 : ∀ (fu : Nat) (h34 : gH) (i : Int) (B : Int), (258 - i).toNat < fu → gSs rT 1027 ty [96999, 97999, 98999] h h34 → (0 ≤ i ∧ i ≤ 257) → (0 ≤ B ∧ B ≤ 257) → (i ≤ n) → h34.2.2.2.2 x 8 = .int (zi n) → h34.2.2.2.2 x 5 = .ref c5 → gRow ty 99 u h34 → gInc u n 257 → gLj ty 96 B v h34 → gBd u n i B → gz gPP gGG gcn (d + 1) gt124 46 [some (.ref x), some (.int (zi a)), some (.int (zi b)), some (.int (zi zq1)), some (.int (zi z10)), some (.int (zi i)), none] [] h34 (fun q _ => gSs rT 1027 ty [96999, 97999, 98999] h q.2.2 ∧ gfin gt124 q.1 q.2.1 = some none ∧ (gLv ty 96 257 (v + 1) q.2.2)) := by
    intro fu
    induction fu with
    | zero => intro h34 i B hm; exact absurd hm (Nat.not_lt_zero _)
    | succ fu ihlp32 =>
      intro h34 i B lp32m sh34 lp32f0 lp32f1 lp32f2 lp32k0 lp32k1 lp32k2 lp32k3 lp32k4 lp32k5
      refine gz_s 2 (pc' := 49) (L' := [some (.ref x), some (.int (zi a)), some (.int (zi b)), some (.int (zi zq1)), some (.int (zi z10)), some (.int (zi i)), none]) (S' := [.ref x, .int (zi i)]) rfl ?_
      refine gs_gtk rfl (by decide) rfl sh34.1 tx rfl rfl lp32k0 ?_
      by_cases hc35 : (n : Int) ≤ i
      · refine gy_icT (pc' := 111) rfl (by decide) (by decide) (by omega) (by omega) hc35 ?_
        exact gz_end (I := .return_) (len := 1) rfl (Or.inl rfl) ⟨sh34, rfl, (gLj.all lp32k4)⟩
      · refine gy_icF rfl (by decide) (by decide) (by omega) (by omega) hc35 ?_
        refine gz_s 1 (pc' := 56) (L' := [some (.ref x), some (.int (zi a)), some (.int (zi b)), some (.int (zi zq1)), some (.int (zi z10)), some (.int (zi i)), none]) (S' := [.ref x]) rfl ?_
        refine gs_gtr rfl (by decide) rfl sh34.1 tx rfl rfl rfl (fun c36 ec36 tc36 => ?_)
        refine gz_s 1 (pc' := 61) (L' := [some (.ref x), some (.int (zi a)), some (.int (zi b)), some (.int (zi zq1)), some (.int (zi z10)), some (.int (zi i)), none]) (S' := [.int (zi i), .ref c36]) rfl ?_
        have hl37 : 257 ≤ h34.2.2.2.1 c36 ∧ h34.2.2.2.1 c36 ≤ 257 := gJ.rowl (G := gGG) sh34.1 tc36 rfl
        refine gs_ald rfl (by decide) sh34.1 tc36 rfl rfl rfl (by decide) (fun _ => rfl) (by omega) (by omega) (fun z38 ez38 az38 bz38 => ?_)
        have hf39 := gRow.at (i := i) (z := z38) lp32k2 tc36 ez38 (by omega) (by omega) (by omega)
        have hbd := gBd.at lp32k5 (by omega) (by omega) hf39
        refine gz_s 2 (pc' := 65) (L' := [some (.ref x), some (.int (zi a)), some (.int (zi b)), some (.int (zi zq1)), some (.int (zi z10)), some (.int (zi i)), some (.int (zi z38))]) (S' := [.ref x]) rfl ?_
        refine gs_gtr rfl (by decide) rfl sh34.1 tx rfl rfl rfl (fun c40 ec40 tc40 => ?_)
        refine gz_s 1 (pc' := 70) (L' := [some (.ref x), some (.int (zi a)), some (.int (zi b)), some (.int (zi zq1)), some (.int (zi z10)), some (.int (zi i)), some (.int (zi z38))]) (S' := [.int (zi z38), .ref c40]) rfl ?_
        have hl41 : 257 ≤ h34.2.2.2.1 c40 ∧ h34.2.2.2.1 c40 ≤ 257 := gJ.rowl (G := gGG) sh34.1 tc40 rfl
        refine gs_ald rfl (by decide) sh34.1 tc40 rfl rfl rfl (by decide) (fun _ => rfl) (by omega) (by omega) (fun z42 ez42 az42 bz42 => ?_)
        refine gz_s 1 (pc' := 72) (L' := [some (.ref x), some (.int (zi a)), some (.int (zi b)), some (.int (zi zq1)), some (.int (zi z10)), some (.int (zi i)), some (.int (zi z38))]) (S' := [.int (zi a), .int (zi z42)]) rfl ?_
        by_cases hc43 : (z42 : Int) = a
        · refine gy_icT (pc' := 86) rfl (by decide) (by decide) (by omega) (by omega) hc43 ?_
          refine gz_s 1 (pc' := 87) (L' := [some (.ref x), some (.int (zi a)), some (.int (zi b)), some (.int (zi zq1)), some (.int (zi z10)), some (.int (zi i)), some (.int (zi z38))]) (S' := [.ref x]) rfl ?_
          refine gs_gtk rfl (by decide) rfl sh34.1 tx rfl rfl ec40 ?_
          refine gz_s 2 (pc' := 93) (L' := [some (.ref x), some (.int (zi a)), some (.int (zi b)), some (.int (zi zq1)), some (.int (zi z10)), some (.int (zi i)), some (.int (zi z38))]) (S' := [.int (zi zq1), .int (zi z38), .ref c40]) rfl ?_
          have hl44 : 257 ≤ h34.2.2.2.1 c40 ∧ h34.2.2.2.1 c40 ≤ 257 := gJ.rowl (G := gGG) sh34.1 tc40 rfl
          refine gs_ast rfl (by decide) sh34 tc40 rfl rfl rfl (by decide) (fun _ => rfl) (by omega) (by omega) (fun _ => (by decide : (98999 : Nat) ∈ ([96999, 97999, 98999] : List Nat))) (by omega) (by omega) (fun h45 sh45 eh45 fh45 => ?_)
          have pr46 := gRow.pt fh45 tc40 (by decide) lp32k2
          have pr47 := gLj.pt fh45 tc40 (by decide) lp32k4
          have s48 := (fh45 x 8 (fun q => absurd (((tx).symm.trans (congrArg ty q.1)).trans tc40) (by decide))).trans lp32k0
          have s49 := (fh45 x 5 (fun q => absurd (((tx).symm.trans (congrArg ty q.1)).trans tc40) (by decide))).trans lp32k1
          have s50 := (fh45 x 7 (fun q => absurd (((tx).symm.trans (congrArg ty q.1)).trans tc40) (by decide))).trans ec36
          have s51 := (fh45 x 6 (fun q => absurd (((tx).symm.trans (congrArg ty q.1)).trans tc40) (by decide))).trans ec40
          have pr52 := gEl.set (i := z38) (z := zq1) uq tc40 (by decide) eh45 (by omega) (by omega)
          refine gz_s 1 (pc' := 95) (L' := [some (.ref x), some (.int (zi a)), some (.int (zi b)), some (.int (zi zq1)), some (.int (zi z10)), some (.int (zi i)), some (.int (zi z38))]) (S' := [.ref x]) rfl ?_
          refine gs_gtr rfl (by decide) rfl sh45.1 tx rfl rfl rfl (fun c53 ec53 tc53 => ?_)
          refine gz_s 2 (pc' := 101) (L' := [some (.ref x), some (.int (zi a)), some (.int (zi b)), some (.int (zi zq1)), some (.int (zi z10)), some (.int (zi i)), some (.int (zi z38))]) (S' := [.int (zi z38), .ref c53, .int (zi z38), .ref c53]) rfl ?_
          have hl54 : 257 ≤ h45.2.2.2.1 c53 ∧ h45.2.2.2.1 c53 ≤ 257 := gJ.rowl (G := gGG) sh45.1 tc53 rfl
          refine gs_ald rfl (by decide) sh45.1 tc53 rfl rfl rfl (by decide) (fun _ => rfl) (by omega) (by omega) (fun z55 ez55 az55 bz55 => ?_)
          have hel := pr47.2.2 z38 (by omega) (by omega) (by omega) _ _ tc53 ez55 (by omega) (by omega)
          refine gy_s 2 (pc' := 104) (L' := [some (.ref x), some (.int (zi a)), some (.int (zi b)), some (.int (zi zq1)), some (.int (zi z10)), some (.int (zi i)), some (.int (zi z38))]) (S' := [.int ((zi z55) + (zi 1)), .int (zi z38), .ref c53]) (L2 := [some (.ref x), some (.int (zi a)), some (.int (zi b)), some (.int (zi zq1)), some (.int (zi z10)), some (.int (zi i)), some (.int (zi z38))]) (S2 := [.int (zi (z55 + 1)), .int (zi z38), .ref c53]) rfl (by simp only [zi_add, zi_sub, zi_mul, zi_neg, zi_and1, zi_and7, zi_and15, zi_and31, zi_and255]) (by simp only [zi_add, zi_sub, zi_mul, zi_neg, zi_and1, zi_and7, zi_and15, zi_and31, zi_and255]) ?_
          have hl56 : 257 ≤ h45.2.2.2.1 c53 ∧ h45.2.2.2.1 c53 ≤ 257 := gJ.rowl (G := gGG) sh45.1 tc53 rfl
          refine gs_ast rfl (by decide) sh45 tc53 rfl rfl rfl (by decide) (fun _ => rfl) (by omega) (by omega) (fun _ => (by decide : (96999 : Nat) ∈ ([96999, 97999, 98999] : List Nat))) (by omega) (by omega) (fun h57 sh57 eh57 fh57 => ?_)
          have pr58 := gRow.pt fh57 tc53 (by decide) pr46
          have pr59 := gEl.pt fh57 tc53 (by decide) pr52
          have s60 := (fh57 x 8 (fun q => absurd (((tx).symm.trans (congrArg ty q.1)).trans tc53) (by decide))).trans s48
          have s61 := (fh57 x 5 (fun q => absurd (((tx).symm.trans (congrArg ty q.1)).trans tc53) (by decide))).trans s49
          have s62 := (fh57 x 7 (fun q => absurd (((tx).symm.trans (congrArg ty q.1)).trans tc53) (by decide))).trans s50
          have s63 := (fh57 x 6 (fun q => absurd (((tx).symm.trans (congrArg ty q.1)).trans tc53) (by decide))).trans s51
          have s64 := (fh57 x 3 (fun q => absurd (((tx).symm.trans (congrArg ty q.1)).trans tc53) (by decide))).trans ec53
          have pr65 := gEl.set (i := z38) (z := z55 + 1) uq tc53 (by decide) eh57 (by omega) (by omega)
          have hlj66 : gLj ty 96 (z38 + 1) v h57 := gLj.step (z := z55 + 1) uq tc53 (by decide) fh57 eh57 (by omega) (by omega) (by omega) pr47
          have hbd67 : gBd u n (i + 1) (z38 + 1) := gBd.step lp32k3 (by omega) hf39
          refine gy_s 2 (pc' := 46) (L' := [some (.ref x), some (.int (zi a)), some (.int (zi b)), some (.int (zi zq1)), some (.int (zi z10)), some (.int ((zi i) + zi 1)), some (.int (zi z38))]) (S' := []) (L2 := [some (.ref x), some (.int (zi a)), some (.int (zi b)), some (.int (zi zq1)), some (.int (zi z10)), some (.int (zi (i + 1))), some (.int (zi z38))]) (S2 := []) rfl (by simp only [zi_add, zi_sub, zi_mul, zi_neg, zi_and1, zi_and7, zi_and15, zi_and31, zi_and255]) (by simp only [zi_add, zi_sub, zi_mul, zi_neg, zi_and1, zi_and7, zi_and15, zi_and31, zi_and255]) ?_
          exact gz_wk (ihlp32 h57 (i + 1) (z38 + 1) (by omega) sh57 (by omega) (by omega) (by omega) s60 s61 pr58 lp32k3 hlj66 hbd67) (gLw.s (gLw.s (gLw.s (gLw.s (gLw.s (gLw.s (gLw.n gLw.z)))))))
        · refine gy_icF rfl (by decide) (by decide) (by omega) (by omega) hc43 ?_
          refine gz_s 1 (pc' := 76) (L' := [some (.ref x), some (.int (zi a)), some (.int (zi b)), some (.int (zi zq1)), some (.int (zi z10)), some (.int (zi i)), some (.int (zi z38))]) (S' := [.ref x]) rfl ?_
          refine gs_gtk rfl (by decide) rfl sh34.1 tx rfl rfl ec40 ?_
          refine gz_s 1 (pc' := 81) (L' := [some (.ref x), some (.int (zi a)), some (.int (zi b)), some (.int (zi zq1)), some (.int (zi z10)), some (.int (zi i)), some (.int (zi z38))]) (S' := [.int (zi z38), .ref c40]) rfl ?_
          have hl68 : 257 ≤ h34.2.2.2.1 c40 ∧ h34.2.2.2.1 c40 ≤ 257 := gJ.rowl (G := gGG) sh34.1 tc40 rfl
          refine gs_ald rfl (by decide) sh34.1 tc40 rfl rfl rfl (by decide) (fun _ => rfl) (by omega) (by omega) (fun z69 ez69 az69 bz69 => ?_)
          refine gz_s 1 (pc' := 83) (L' := [some (.ref x), some (.int (zi a)), some (.int (zi b)), some (.int (zi zq1)), some (.int (zi z10)), some (.int (zi i)), some (.int (zi z38))]) (S' := [.int (zi b), .int (zi z69)]) rfl ?_
          by_cases hc70 : ¬ (z69 : Int) = b
          · refine gy_icT (pc' := 105) rfl (by decide) (by decide) (by omega) (by omega) hc70 ?_
            have hlj71 : gLj ty 96 (z38 + 1) v h34 := gLj.up (by omega) lp32k4
            have hbd72 : gBd u n (i + 1) (z38 + 1) := gBd.step lp32k3 (by omega) hf39
            refine gy_s 2 (pc' := 46) (L' := [some (.ref x), some (.int (zi a)), some (.int (zi b)), some (.int (zi zq1)), some (.int (zi z10)), some (.int ((zi i) + zi 1)), some (.int (zi z38))]) (S' := []) (L2 := [some (.ref x), some (.int (zi a)), some (.int (zi b)), some (.int (zi zq1)), some (.int (zi z10)), some (.int (zi (i + 1))), some (.int (zi z38))]) (S2 := []) rfl (by simp only [zi_add, zi_sub, zi_mul, zi_neg, zi_and1, zi_and7, zi_and15, zi_and31, zi_and255]) (by simp only [zi_add, zi_sub, zi_mul, zi_neg, zi_and1, zi_and7, zi_and15, zi_and31, zi_and255]) ?_
            exact gz_wk (ihlp32 h34 (i + 1) (z38 + 1) (by omega) sh34 (by omega) (by omega) (by omega) lp32k0 lp32k1 lp32k2 lp32k3 hlj71 hbd72) (gLw.s (gLw.s (gLw.s (gLw.s (gLw.s (gLw.s (gLw.n gLw.z)))))))
          · refine gy_icF rfl (by decide) (by decide) (by omega) (by omega) hc70 ?_
            refine gz_s 1 (pc' := 87) (L' := [some (.ref x), some (.int (zi a)), some (.int (zi b)), some (.int (zi zq1)), some (.int (zi z10)), some (.int (zi i)), some (.int (zi z38))]) (S' := [.ref x]) rfl ?_
            refine gs_gtk rfl (by decide) rfl sh34.1 tx rfl rfl ec40 ?_
            refine gz_s 2 (pc' := 93) (L' := [some (.ref x), some (.int (zi a)), some (.int (zi b)), some (.int (zi zq1)), some (.int (zi z10)), some (.int (zi i)), some (.int (zi z38))]) (S' := [.int (zi zq1), .int (zi z38), .ref c40]) rfl ?_
            have hl73 : 257 ≤ h34.2.2.2.1 c40 ∧ h34.2.2.2.1 c40 ≤ 257 := gJ.rowl (G := gGG) sh34.1 tc40 rfl
            refine gs_ast rfl (by decide) sh34 tc40 rfl rfl rfl (by decide) (fun _ => rfl) (by omega) (by omega) (fun _ => (by decide : (98999 : Nat) ∈ ([96999, 97999, 98999] : List Nat))) (by omega) (by omega) (fun h74 sh74 eh74 fh74 => ?_)
            have pr75 := gRow.pt fh74 tc40 (by decide) lp32k2
            have pr76 := gLj.pt fh74 tc40 (by decide) lp32k4
            have s77 := (fh74 x 8 (fun q => absurd (((tx).symm.trans (congrArg ty q.1)).trans tc40) (by decide))).trans lp32k0
            have s78 := (fh74 x 5 (fun q => absurd (((tx).symm.trans (congrArg ty q.1)).trans tc40) (by decide))).trans lp32k1
            have s79 := (fh74 x 7 (fun q => absurd (((tx).symm.trans (congrArg ty q.1)).trans tc40) (by decide))).trans ec36
            have s80 := (fh74 x 6 (fun q => absurd (((tx).symm.trans (congrArg ty q.1)).trans tc40) (by decide))).trans ec40
            have pr81 := gEl.set (i := z38) (z := zq1) uq tc40 (by decide) eh74 (by omega) (by omega)
            refine gz_s 1 (pc' := 95) (L' := [some (.ref x), some (.int (zi a)), some (.int (zi b)), some (.int (zi zq1)), some (.int (zi z10)), some (.int (zi i)), some (.int (zi z38))]) (S' := [.ref x]) rfl ?_
            refine gs_gtr rfl (by decide) rfl sh74.1 tx rfl rfl rfl (fun c82 ec82 tc82 => ?_)
            refine gz_s 2 (pc' := 101) (L' := [some (.ref x), some (.int (zi a)), some (.int (zi b)), some (.int (zi zq1)), some (.int (zi z10)), some (.int (zi i)), some (.int (zi z38))]) (S' := [.int (zi z38), .ref c82, .int (zi z38), .ref c82]) rfl ?_
            have hl83 : 257 ≤ h74.2.2.2.1 c82 ∧ h74.2.2.2.1 c82 ≤ 257 := gJ.rowl (G := gGG) sh74.1 tc82 rfl
            refine gs_ald rfl (by decide) sh74.1 tc82 rfl rfl rfl (by decide) (fun _ => rfl) (by omega) (by omega) (fun z84 ez84 az84 bz84 => ?_)
            have hel := pr76.2.2 z38 (by omega) (by omega) (by omega) _ _ tc82 ez84 (by omega) (by omega)
            refine gy_s 2 (pc' := 104) (L' := [some (.ref x), some (.int (zi a)), some (.int (zi b)), some (.int (zi zq1)), some (.int (zi z10)), some (.int (zi i)), some (.int (zi z38))]) (S' := [.int ((zi z84) + (zi 1)), .int (zi z38), .ref c82]) (L2 := [some (.ref x), some (.int (zi a)), some (.int (zi b)), some (.int (zi zq1)), some (.int (zi z10)), some (.int (zi i)), some (.int (zi z38))]) (S2 := [.int (zi (z84 + 1)), .int (zi z38), .ref c82]) rfl (by simp only [zi_add, zi_sub, zi_mul, zi_neg, zi_and1, zi_and7, zi_and15, zi_and31, zi_and255]) (by simp only [zi_add, zi_sub, zi_mul, zi_neg, zi_and1, zi_and7, zi_and15, zi_and31, zi_and255]) ?_
            have hl85 : 257 ≤ h74.2.2.2.1 c82 ∧ h74.2.2.2.1 c82 ≤ 257 := gJ.rowl (G := gGG) sh74.1 tc82 rfl
            refine gs_ast rfl (by decide) sh74 tc82 rfl rfl rfl (by decide) (fun _ => rfl) (by omega) (by omega) (fun _ => (by decide : (96999 : Nat) ∈ ([96999, 97999, 98999] : List Nat))) (by omega) (by omega) (fun h86 sh86 eh86 fh86 => ?_)
            have pr87 := gRow.pt fh86 tc82 (by decide) pr75
            have pr88 := gEl.pt fh86 tc82 (by decide) pr81
            have s89 := (fh86 x 8 (fun q => absurd (((tx).symm.trans (congrArg ty q.1)).trans tc82) (by decide))).trans s77
            have s90 := (fh86 x 5 (fun q => absurd (((tx).symm.trans (congrArg ty q.1)).trans tc82) (by decide))).trans s78
            have s91 := (fh86 x 7 (fun q => absurd (((tx).symm.trans (congrArg ty q.1)).trans tc82) (by decide))).trans s79
            have s92 := (fh86 x 6 (fun q => absurd (((tx).symm.trans (congrArg ty q.1)).trans tc82) (by decide))).trans s80
            have s93 := (fh86 x 3 (fun q => absurd (((tx).symm.trans (congrArg ty q.1)).trans tc82) (by decide))).trans ec82
            have pr94 := gEl.set (i := z38) (z := z84 + 1) uq tc82 (by decide) eh86 (by omega) (by omega)
            have hlj95 : gLj ty 96 (z38 + 1) v h86 := gLj.step (z := z84 + 1) uq tc82 (by decide) fh86 eh86 (by omega) (by omega) (by omega) pr76
            have hbd96 : gBd u n (i + 1) (z38 + 1) := gBd.step lp32k3 (by omega) hf39
            refine gy_s 2 (pc' := 46) (L' := [some (.ref x), some (.int (zi a)), some (.int (zi b)), some (.int (zi zq1)), some (.int (zi z10)), some (.int ((zi i) + zi 1)), some (.int (zi z38))]) (S' := []) (L2 := [some (.ref x), some (.int (zi a)), some (.int (zi b)), some (.int (zi zq1)), some (.int (zi z10)), some (.int (zi (i + 1))), some (.int (zi z38))]) (S2 := []) rfl (by simp only [zi_add, zi_sub, zi_mul, zi_neg, zi_and1, zi_and7, zi_and15, zi_and31, zi_and255]) (by simp only [zi_add, zi_sub, zi_mul, zi_neg, zi_and1, zi_and7, zi_and15, zi_and31, zi_and255]) ?_
            exact gz_wk (ihlp32 h86 (i + 1) (z38 + 1) (by omega) sh86 (by omega) (by omega) (by omega) s89 s90 pr87 lp32k3 hlj95 hbd96) (gLw.s (gLw.s (gLw.s (gLw.s (gLw.s (gLw.s (gLw.n gLw.z)))))))
  exact gz_wk (lp32 _ h26 0 0 (Nat.lt_succ_self _) sh26 (by omega) (by omega) (by omega) s29 s30 pr27 hyinc hlj33 (gBd.zero hyinc)) (gLw.s (gLw.s (gLw.s (gLw.s (gLw.s (gLw.s (gLw.n gLw.z)))))))
set_option maxRecDepth 20000 in
set_option maxHeartbeats 4000000 in
theorem cl_Suited0_orderCodes (d : Nat) {ty : Nat → Nat} {h : gH} (hJ : gJ rT 1027 ty h) (x : Nat) (tx : ty x = 91) (n : Int) (en : h.2.2.2.2 x 8 = .int (zi n)) (rn : 0 ≤ n ∧ n ≤ 257) (u f : Nat → Int) (uq : gUq ty) (hyf99 : gRow ty 99 u h) (hyf96 : gRow ty 96 f h) (hyinc : gInc u n 257) : gz gPP gGG gcn (d + 0) gt125 0 (gent [.ref x] 5) [] h (fun q _ => gSs rT 1027 ty [91004, 93999, 94999, 95999] h q.2.2 ∧ ∃ t1 : Int, gfin gt125 q.1 q.2.1 = some none ∧ q.2.2.2.2.2.2 x 4 = .int (zi t1) ∧ 0 ≤ t1 ∧ t1 ≤ 256) := by
  have hS : gSs rT 1027 ty [91004, 93999, 94999, 95999] h h := gSs.rf hJ
  refine gz_s 2 (pc' := 2) (L' := [some (.ref x), none, none, none, none]) (S' := [.int (zi 0), .ref x]) rfl ?_
  refine gs_put rfl (by decide) rfl hS tx rfl rfl rfl rfl (Or.inl rfl) (by decide) (by omega) (by omega) (fun h1 sh1 eh1 fh1 => ?_)
  have pr2 := gRow.pt fh1 tx (by decide) hyf99
  have pr3 := gRow.pt fh1 tx (by decide) hyf96
  have s4 := (fh1 x 8 (fun q => absurd q.2 (by decide))).trans en
  refine gz_s 4 (pc' := 9) (L' := [some (.ref x), some (.int (zi 0)), some (.int (zi 1)), none, none]) (S' := []) rfl ?_
  have lp5 : ∀ (fu : Nat) (h6 : gH) (nx : Int) (ln : Int) (tv : Int), (18 - ln).toNat < fu → gSs rT 1027 ty [91004, 93999, 94999, 95999] h h6 → ((-2147483648) ≤ nx ∧ nx ≤ 2147483647) → (1 ≤ ln ∧ ln ≤ 17) → (0 ≤ tv ∧ tv ≤ 256) → (tv ≤ gF (gcf u f) 0 ln 0) → h6.2.2.2.2 x 8 = .int (zi n) → h6.2.2.2.2 x 4 = .int (zi tv) → gRow ty 99 u h6 → gRow ty 96 f h6 → gInc u n 257 → gz gPP gGG gcn (d + 0) gt125 9 [some (.ref x), some (.int (zi nx)), some (.int (zi ln)), none, none] [] h6 (fun q _ => gSs rT 1027 ty [91004, 93999, 94999, 95999] h q.2.2 ∧ ∃ t1 : Int, gfin gt125 q.1 q.2.1 = some none ∧ q.2.2.2.2.2.2 x 4 = .int (zi t1) ∧ 0 ≤ t1 ∧ t1 ≤ 256) := by
    intro fu
    induction fu with
    | zero => intro h6 nx ln tv hm; exact absurd hm (Nat.not_lt_zero _)
    | succ fu ihlp5 =>
      intro h6 nx ln tv lp5m sh6 lp5f0 lp5f1 lp5f2 lp5f3 lp5k0 lp5k1 lp5k2 lp5k3 lp5k4
      refine gz_s 2 (pc' := 12) (L' := [some (.ref x), some (.int (zi nx)), some (.int (zi ln)), none, none]) (S' := [.int (zi 16), .int (zi ln)]) rfl ?_
      by_cases hc7 : (16 : Int) < ln
      · refine gy_icT (pc' := 117) rfl (by decide) (by decide) (by omega) (by omega) hc7 ?_
        exact gz_end (I := .return_) (len := 1) rfl (Or.inl rfl) ⟨sh6, tv, rfl, lp5k1, (by omega), (by omega)⟩
      · refine gy_icF rfl (by decide) (by decide) (by omega) (by omega) hc7 ?_
        refine gz_s 1 (pc' := 16) (L' := [some (.ref x), some (.int (zi nx)), some (.int (zi ln)), none, none]) (S' := [.ref x]) rfl ?_
        refine gs_gtr rfl (by decide) rfl sh6.1 tx rfl rfl rfl (fun c8 ec8 tc8 => ?_)
        refine gz_s 2 (pc' := 21) (L' := [some (.ref x), some (.int (zi nx)), some (.int (zi ln)), none, none]) (S' := [.int (zi 0), .int (zi ln), .ref c8]) rfl ?_
        have hl9 : 17 ≤ h6.2.2.2.1 c8 ∧ h6.2.2.2.1 c8 ≤ 17 := gJ.rowl (G := gGG) sh6.1 tc8 rfl
        refine gs_ast rfl (by decide) sh6 tc8 rfl rfl rfl (by decide) (fun _ => rfl) (by omega) (by omega) (fun _ => (by decide : (93999 : Nat) ∈ ([91004, 93999, 94999, 95999] : List Nat))) (by omega) (by omega) (fun h10 sh10 eh10 fh10 => ?_)
        have pr11 := gRow.pt fh10 tc8 (by decide) lp5k2
        have pr12 := gRow.pt fh10 tc8 (by decide) lp5k3
        have s13 := (fh10 x 8 (fun q => absurd (((tx).symm.trans (congrArg ty q.1)).trans tc8) (by decide))).trans lp5k0
        have s14 := (fh10 x 4 (fun q => absurd (((tx).symm.trans (congrArg ty q.1)).trans tc8) (by decide))).trans lp5k1
        have s15 := (fh10 x 0 (fun q => absurd (((tx).symm.trans (congrArg ty q.1)).trans tc8) (by decide))).trans ec8
        have pr16 := gEl.set (i := ln) (z := 0) uq tc8 (by decide) eh10 (by omega) (by omega)
        refine gz_s 2 (pc' := 24) (L' := [some (.ref x), some (.int (zi nx)), some (.int (zi ln)), some (.int (zi 0)), none]) (S' := []) rfl ?_
        have lp17 : ∀ (fu : Nat) (h18 : gH) (nx2 : Int) (i : Int) (tv2 : Int), (258 - i).toNat < fu → gSs rT 1027 ty [91004, 93999, 94999, 95999] h h18 → ((-2147483648) ≤ nx2 ∧ nx2 ≤ 2147483647) → (0 ≤ i ∧ i ≤ 257) → (0 ≤ tv2 ∧ tv2 ≤ 256) → (tv2 ≤ gF (gcf u f) 0 ln i) → (i ≤ n) → h18.2.2.2.2 x 8 = .int (zi n) → h18.2.2.2.2 x 0 = .ref c8 → h18.2.2.2.2 x 4 = .int (zi tv2) → gRow ty 99 u h18 → gRow ty 96 f h18 → gInc u n 257 → gEl ty 93 ln 0 i h18 → gz gPP gGG gcn (d + 0) gt125 24 [some (.ref x), some (.int (zi nx2)), some (.int (zi ln)), some (.int (zi i)), none] [] h18 (fun q _ => gSs rT 1027 ty [91004, 93999, 94999, 95999] h q.2.2 ∧ ∃ t1 : Int, gfin gt125 q.1 q.2.1 = some none ∧ q.2.2.2.2.2.2 x 4 = .int (zi t1) ∧ 0 ≤ t1 ∧ t1 ≤ 256) := by
          intro fu
          induction fu with
          | zero => intro h18 nx2 i tv2 hm; exact absurd hm (Nat.not_lt_zero _)
          | succ fu ihlp17 =>
            intro h18 nx2 i tv2 lp17m sh18 lp17f0 lp17f1 lp17f2 lp17f3 lp17f4 lp17k0 lp17k1 lp17k2 lp17k3 lp17k4 lp17k5 lp17k6
            refine gz_s 2 (pc' := 26) (L' := [some (.ref x), some (.int (zi nx2)), some (.int (zi ln)), some (.int (zi i)), none]) (S' := [.ref x, .int (zi i)]) rfl ?_
            refine gs_gtk rfl (by decide) rfl sh18.1 tx rfl rfl lp17k0 ?_
            by_cases hc19 : (n : Int) ≤ i
            · refine gy_icT (pc' := 107) rfl (by decide) (by decide) (by omega) (by omega) hc19 ?_
              have gwr := gF_wr (f := gcf u f) (off := 0) (bits := ln) (s := i)
              refine gy_s 3 (pc' := 110) (L' := [some (.ref x), some (.int (zi nx2)), some (.int (zi ln)), some (.int (zi i)), none]) (S' := [.int ((zi 2) * (zi nx2))]) (L2 := [some (.ref x), some (.int (zi nx2)), some (.int (zi ln)), some (.int (zi i)), none]) (S2 := [.int (zi (2 * nx2))]) rfl (by simp only [zi_add, zi_sub, zi_mul, zi_neg, zi_and1, zi_and7, zi_and15, zi_and31, zi_and255]) (by simp only [zi_add, zi_sub, zi_mul, zi_neg, zi_and1, zi_and7, zi_and15, zi_and31, zi_and255]) ?_
              refine gy_any (fun z20 ez20 az20 bz20 => ?_)
              refine gy_any (fun z21 ez21 az21 bz21 => ?_)
              refine gy_s 3 (pc' := 9) (L' := [some (.ref x), some (.int (zi z21)), some (.int ((zi ln) + zi 1)), some (.int (zi i)), none]) (S' := []) (L2 := [some (.ref x), some (.int (zi z21)), some (.int (zi (ln + 1))), some (.int (zi i)), none]) (S2 := []) rfl (by simp only [zi_add, zi_sub, zi_mul, zi_neg, zi_and1, zi_and7, zi_and15, zi_and31, zi_and255]) (by simp only [zi_add, zi_sub, zi_mul, zi_neg, zi_and1, zi_and7, zi_and15, zi_and31, zi_and255]) ?_
              exact gz_wk (ihlp5 h18 z21 (ln + 1) tv2 (by omega) sh18 (by omega) (by omega) (by omega) (by omega) lp17k0 lp17k2 lp17k3 lp17k4 lp17k5) (gLw.s (gLw.s (gLw.s (gLw.n (gLw.n gLw.z)))))
            · refine gy_icF rfl (by decide) (by decide) (by omega) (by omega) hc19 ?_
              refine gz_s 1 (pc' := 33) (L' := [some (.ref x), some (.int (zi nx2)), some (.int (zi ln)), some (.int (zi i)), none]) (S' := [.ref x]) rfl ?_
              refine gs_gtr rfl (by decide) rfl sh18.1 tx rfl rfl rfl (fun c22 ec22 tc22 => ?_)
              refine gz_s 1 (pc' := 37) (L' := [some (.ref x), some (.int (zi nx2)), some (.int (zi ln)), some (.int (zi i)), none]) (S' := [.int (zi i), .ref c22]) rfl ?_
              have hl23 : 257 ≤ h18.2.2.2.1 c22 ∧ h18.2.2.2.1 c22 ≤ 257 := gJ.rowl (G := gGG) sh18.1 tc22 rfl
              refine gs_ald rfl (by decide) sh18.1 tc22 rfl rfl rfl (by decide) (fun _ => rfl) (by omega) (by omega) (fun z24 ez24 az24 bz24 => ?_)
              have hf25 := gRow.at (i := i) (z := z24) lp17k3 tc22 ez24 (by omega) (by omega) (by omega)
              refine gz_s 3 (pc' := 45) (L' := [some (.ref x), some (.int (zi nx2)), some (.int (zi ln)), some (.int (zi i)), some (.int (zi z24))]) (S' := [.int (zi 256), .int (zi z24)]) rfl ?_
              by_cases hc26 : (256 : Int) ≤ z24
              · refine gy_icT (pc' := 101) rfl (by decide) (by decide) (by omega) (by omega) hc26 ?_
                have gup := gF_up (f := gcf u f) (off := 0) (bits := ln) (s := i) (t := i + 1) (by omega)
                have hel27 : gEl ty 93 ln 0 (i + 1) h18 := gEl.wd lp17k6 (by omega) (by omega)
                refine gy_s 2 (pc' := 24) (L' := [some (.ref x), some (.int (zi nx2)), some (.int (zi ln)), some (.int ((zi i) + zi 1)), some (.int (zi z24))]) (S' := []) (L2 := [some (.ref x), some (.int (zi nx2)), some (.int (zi ln)), some (.int (zi (i + 1))), some (.int (zi z24))]) (S2 := []) rfl (by simp only [zi_add, zi_sub, zi_mul, zi_neg, zi_and1, zi_and7, zi_and15, zi_and31, zi_and255]) (by simp only [zi_add, zi_sub, zi_mul, zi_neg, zi_and1, zi_and7, zi_and15, zi_and31, zi_and255]) ?_
                exact gz_wk (ihlp17 h18 nx2 (i + 1) tv2 (by omega) sh18 (by omega) (by omega) (by omega) (by omega) (by omega) lp17k0 lp17k1 lp17k2 lp17k3 lp17k4 lp17k5 hel27) (gLw.s (gLw.s (gLw.s (gLw.s (gLw.n gLw.z)))))
              · refine gy_icF rfl (by decide) (by decide) (by omega) (by omega) hc26 ?_
                refine gz_s 1 (pc' := 49) (L' := [some (.ref x), some (.int (zi nx2)), some (.int (zi ln)), some (.int (zi i)), some (.int (zi z24))]) (S' := [.ref x]) rfl ?_
                refine gs_gtr rfl (by decide) rfl sh18.1 tx rfl rfl rfl (fun c28 ec28 tc28 => ?_)
                refine gz_s 1 (pc' := 54) (L' := [some (.ref x), some (.int (zi nx2)), some (.int (zi ln)), some (.int (zi i)), some (.int (zi z24))]) (S' := [.int (zi z24), .ref c28]) rfl ?_
                have hl29 : 257 ≤ h18.2.2.2.1 c28 ∧ h18.2.2.2.1 c28 ≤ 257 := gJ.rowl (G := gGG) sh18.1 tc28 rfl
                refine gs_ald rfl (by decide) sh18.1 tc28 rfl rfl rfl (by decide) (fun _ => rfl) (by omega) (by omega) (fun z30 ez30 az30 bz30 => ?_)
                have hf31 := gRow.at (i := z24) (z := z30) lp17k4 tc28 ez30 (by omega) (by omega) (by omega)
                refine gz_s 1 (pc' := 56) (L' := [some (.ref x), some (.int (zi nx2)), some (.int (zi ln)), some (.int (zi i)), some (.int (zi z24))]) (S' := [.int (zi ln), .int (zi z30)]) rfl ?_
                by_cases hc32 : ¬ (z30 : Int) = ln
                · refine gy_icT (pc' := 101) rfl (by decide) (by decide) (by omega) (by omega) hc32 ?_
                  have gup := gF_up (f := gcf u f) (off := 0) (bits := ln) (s := i) (t := i + 1) (by omega)
                  have hel33 : gEl ty 93 ln 0 (i + 1) h18 := gEl.wd lp17k6 (by omega) (by omega)
                  refine gy_s 2 (pc' := 24) (L' := [some (.ref x), some (.int (zi nx2)), some (.int (zi ln)), some (.int ((zi i) + zi 1)), some (.int (zi z24))]) (S' := []) (L2 := [some (.ref x), some (.int (zi nx2)), some (.int (zi ln)), some (.int (zi (i + 1))), some (.int (zi z24))]) (S2 := []) rfl (by simp only [zi_add, zi_sub, zi_mul, zi_neg, zi_and1, zi_and7, zi_and15, zi_and31, zi_and255]) (by simp only [zi_add, zi_sub, zi_mul, zi_neg, zi_and1, zi_and7, zi_and15, zi_and31, zi_and255]) ?_
                  exact gz_wk (ihlp17 h18 nx2 (i + 1) tv2 (by omega) sh18 (by omega) (by omega) (by omega) (by omega) (by omega) lp17k0 lp17k1 lp17k2 lp17k3 lp17k4 lp17k5 hel33) (gLw.s (gLw.s (gLw.s (gLw.s (gLw.n gLw.z)))))
                · refine gy_icF rfl (by decide) (by decide) (by omega) (by omega) hc32 ?_
                  have hin := (lp17k5.1 (i).toNat (by omega)).1
                  have gst := gF_st (f := gcf u f) (off := 0) (bits := ln) (s := i) (z := ln) (by omega) (by omega) (by have h9 := hf25; omega) (gcf_at (by omega) hf25 (by omega) (by have h9 := hf31; omega))
                  rw [if_pos rfl] at gst
                  have gfl := gF_le (f := gcf u f) (off := 0) (bits := ln) (s := i + 1)
                  refine gz_s 1 (pc' := 60) (L' := [some (.ref x), some (.int (zi nx2)), some (.int (zi ln)), some (.int (zi i)), some (.int (zi z24))]) (S' := [.ref x]) rfl ?_
                  refine gs_gtk rfl (by decide) rfl sh18.1 tx rfl rfl lp17k1 ?_
                  refine gz_s 2 (pc' := 65) (L' := [some (.ref x), some (.int (zi nx2)), some (.int (zi ln)), some (.int (zi i)), some (.int (zi z24))]) (S' := [.int (zi ln), .ref c8, .int (zi ln), .ref c8]) rfl ?_
                  have hl34 : 17 ≤ h18.2.2.2.1 c8 ∧ h18.2.2.2.1 c8 ≤ 17 := gJ.rowl (G := gGG) sh18.1 tc8 rfl
                  refine gs_ald rfl (by decide) sh18.1 tc8 rfl rfl rfl (by decide) (fun _ => rfl) (by omega) (by omega) (fun z35 ez35 az35 bz35 => ?_)
                  have he36 := lp17k6 c8 z35 tc8 ez35 (by omega) (by omega)
                  refine gy_s 2 (pc' := 68) (L' := [some (.ref x), some (.int (zi nx2)), some (.int (zi ln)), some (.int (zi i)), some (.int (zi z24))]) (S' := [.int ((zi z35) + (zi 1)), .int (zi ln), .ref c8]) (L2 := [some (.ref x), some (.int (zi nx2)), some (.int (zi ln)), some (.int (zi i)), some (.int (zi z24))]) (S2 := [.int (zi (z35 + 1)), .int (zi ln), .ref c8]) rfl (by simp only [zi_add, zi_sub, zi_mul, zi_neg, zi_and1, zi_and7, zi_and15, zi_and31, zi_and255]) (by simp only [zi_add, zi_sub, zi_mul, zi_neg, zi_and1, zi_and7, zi_and15, zi_and31, zi_and255]) ?_
                  have hl37 : 17 ≤ h18.2.2.2.1 c8 ∧ h18.2.2.2.1 c8 ≤ 17 := gJ.rowl (G := gGG) sh18.1 tc8 rfl
                  refine gs_ast rfl (by decide) sh18 tc8 rfl rfl rfl (by decide) (fun _ => rfl) (by omega) (by omega) (fun _ => (by decide : (93999 : Nat) ∈ ([91004, 93999, 94999, 95999] : List Nat))) (by omega) (by omega) (fun h38 sh38 eh38 fh38 => ?_)
                  have pr39 := gRow.pt fh38 tc8 (by decide) lp17k3
                  have pr40 := gRow.pt fh38 tc8 (by decide) lp17k4
                  have s41 := (fh38 x 8 (fun q => absurd (((tx).symm.trans (congrArg ty q.1)).trans tc8) (by decide))).trans lp17k0
                  have s42 := (fh38 x 0 (fun q => absurd (((tx).symm.trans (congrArg ty q.1)).trans tc8) (by decide))).trans lp17k1
                  have s43 := (fh38 x 4 (fun q => absurd (((tx).symm.trans (congrArg ty q.1)).trans tc8) (by decide))).trans lp17k2
                  have s44 := (fh38 x 7 (fun q => absurd (((tx).symm.trans (congrArg ty q.1)).trans tc8) (by decide))).trans ec22
                  have s45 := (fh38 x 3 (fun q => absurd (((tx).symm.trans (congrArg ty q.1)).trans tc8) (by decide))).trans ec28
                  have pr46 := gEl.set (i := ln) (z := z35 + 1) uq tc8 (by decide) eh38 (by omega) (by omega)
                  refine gz_s 1 (pc' := 70) (L' := [some (.ref x), some (.int (zi nx2)), some (.int (zi ln)), some (.int (zi i)), some (.int (zi z24))]) (S' := [.ref x]) rfl ?_
                  refine gs_gtr rfl (by decide) rfl sh38.1 tx rfl rfl rfl (fun c47 ec47 tc47 => ?_)
                  refine gz_s 1 (pc' := 74) (L' := [some (.ref x), some (.int (zi nx2)), some (.int (zi ln)), some (.int (zi i)), some (.int (zi z24))]) (S' := [.ref x, .ref c47]) rfl ?_
                  refine gs_gtk rfl (by decide) rfl sh38.1 tx rfl rfl s43 ?_
                  refine gz_s 1 (pc' := 79) (L' := [some (.ref x), some (.int (zi nx2)), some (.int (zi ln)), some (.int (zi i)), some (.int (zi z24))]) (S' := [.int (zi z24), .int (zi tv2), .ref c47]) rfl ?_
                  have hl48 : 256 ≤ h38.2.2.2.1 c47 ∧ h38.2.2.2.1 c47 ≤ 256 := gJ.rowl (G := gGG) sh38.1 tc47 rfl
                  refine gs_ast rfl (by decide) sh38 tc47 rfl rfl rfl (by decide) (fun _ => rfl) (by omega) (by omega) (fun _ => (by decide : (94999 : Nat) ∈ ([91004, 93999, 94999, 95999] : List Nat))) (by omega) (by omega) (fun h49 sh49 eh49 fh49 => ?_)
                  have pr50 := gRow.pt fh49 tc47 (by decide) pr39
                  have pr51 := gRow.pt fh49 tc47 (by decide) pr40
                  have pr52 := gEl.pt fh49 tc47 (by decide) pr46
                  have s53 := (fh49 x 8 (fun q => absurd (((tx).symm.trans (congrArg ty q.1)).trans tc47) (by decide))).trans s41
                  have s54 := (fh49 x 0 (fun q => absurd (((tx).symm.trans (congrArg ty q.1)).trans tc47) (by decide))).trans s42
                  have s55 := (fh49 x 4 (fun q => absurd (((tx).symm.trans (congrArg ty q.1)).trans tc47) (by decide))).trans s43
                  have s56 := (fh49 x 7 (fun q => absurd (((tx).symm.trans (congrArg ty q.1)).trans tc47) (by decide))).trans s44
                  have s57 := (fh49 x 3 (fun q => absurd (((tx).symm.trans (congrArg ty q.1)).trans tc47) (by decide))).trans s45
                  have s58 := (fh49 x 1 (fun q => absurd (((tx).symm.trans (congrArg ty q.1)).trans tc47) (by decide))).trans ec47
                  have pr59 := gEl.set (i := tv2) (z := z24) uq tc47 (by decide) eh49 (by omega) (by omega)
                  refine gz_s 2 (pc' := 82) (L' := [some (.ref x), some (.int (zi nx2)), some (.int (zi ln)), some (.int (zi i)), some (.int (zi z24))]) (S' := [.ref x, .ref x]) rfl ?_
                  refine gs_gtk rfl (by decide) rfl sh49.1 tx rfl rfl s55 ?_
                  refine gy_s 2 (pc' := 87) (L' := [some (.ref x), some (.int (zi nx2)), some (.int (zi ln)), some (.int (zi i)), some (.int (zi z24))]) (S' := [.int ((zi tv2) + (zi 1)), .ref x]) (L2 := [some (.ref x), some (.int (zi nx2)), some (.int (zi ln)), some (.int (zi i)), some (.int (zi z24))]) (S2 := [.int (zi (tv2 + 1)), .ref x]) rfl (by simp only [zi_add, zi_sub, zi_mul, zi_neg, zi_and1, zi_and7, zi_and15, zi_and31, zi_and255]) (by simp only [zi_add, zi_sub, zi_mul, zi_neg, zi_and1, zi_and7, zi_and15, zi_and31, zi_and255]) ?_
                  refine gs_put rfl (by decide) rfl sh49 tx rfl rfl rfl rfl (Or.inl rfl) (by decide) (by omega) (by omega) (fun h60 sh60 eh60 fh60 => ?_)
                  have pr61 := gRow.pt fh60 tx (by decide) pr50
                  have pr62 := gRow.pt fh60 tx (by decide) pr51
                  have pr63 := gEl.pt fh60 tx (by decide) pr52
                  have pr64 := gEl.pt fh60 tx (by decide) pr59
                  have s65 := (fh60 x 8 (fun q => absurd q.2 (by decide))).trans s53
                  have s66 := (fh60 x 0 (fun q => absurd q.2 (by decide))).trans s54
                  have s67 := (fh60 x 7 (fun q => absurd q.2 (by decide))).trans s56
                  have s68 := (fh60 x 3 (fun q => absurd q.2 (by decide))).trans s57
                  have s69 := (fh60 x 1 (fun q => absurd q.2 (by decide))).trans s58
                  refine gz_s 1 (pc' := 91) (L' := [some (.ref x), some (.int (zi nx2)), some (.int (zi ln)), some (.int (zi i)), some (.int (zi z24))]) (S' := [.ref x]) rfl ?_
                  refine gs_gtr rfl (by decide) rfl sh60.1 tx rfl rfl rfl (fun c70 ec70 tc70 => ?_)
                  refine gz_s 2 (pc' := 97) (L' := [some (.ref x), some (.int (zi nx2)), some (.int (zi ln)), some (.int (zi i)), some (.int (zi z24))]) (S' := [.int (zi nx2), .int (zi z24), .ref c70]) rfl ?_
                  have hl71 : 257 ≤ h60.2.2.2.1 c70 ∧ h60.2.2.2.1 c70 ≤ 257 := gJ.rowl (G := gGG) sh60.1 tc70 rfl
                  refine gs_ast rfl (by decide) sh60 tc70 rfl rfl rfl (by decide) (fun _ => rfl) (by omega) (by omega) (fun _ => (by decide : (95999 : Nat) ∈ ([91004, 93999, 94999, 95999] : List Nat))) (by omega) (by omega) (fun h72 sh72 eh72 fh72 => ?_)
                  have pr73 := gRow.pt fh72 tc70 (by decide) pr61
                  have pr74 := gRow.pt fh72 tc70 (by decide) pr62
                  have pr75 := gEl.pt fh72 tc70 (by decide) pr63
                  have pr76 := gEl.pt fh72 tc70 (by decide) pr64
                  have s77 := (fh72 x 8 (fun q => absurd (((tx).symm.trans (congrArg ty q.1)).trans tc70) (by decide))).trans s65
                  have s78 := (fh72 x 0 (fun q => absurd (((tx).symm.trans (congrArg ty q.1)).trans tc70) (by decide))).trans s66
                  have s79 := (fh72 x 7 (fun q => absurd (((tx).symm.trans (congrArg ty q.1)).trans tc70) (by decide))).trans s67
                  have s80 := (fh72 x 3 (fun q => absurd (((tx).symm.trans (congrArg ty q.1)).trans tc70) (by decide))).trans s68
                  have s81 := (fh72 x 1 (fun q => absurd (((tx).symm.trans (congrArg ty q.1)).trans tc70) (by decide))).trans s69
                  have s82 := (fh72 x 4 (fun q => absurd (((tx).symm.trans (congrArg ty q.1)).trans tc70) (by decide))).trans eh60
                  have s83 := (fh72 x 2 (fun q => absurd (((tx).symm.trans (congrArg ty q.1)).trans tc70) (by decide))).trans ec70
                  have pr84 := gEl.set (i := z24) (z := nx2) uq tc70 (by decide) eh72 (by omega) (by omega)
                  refine gy_s 1 (pc' := 101) (L' := [some (.ref x), some (.int ((zi nx2) + zi 1)), some (.int (zi ln)), some (.int (zi i)), some (.int (zi z24))]) (S' := []) (L2 := [some (.ref x), some (.int (zi (nx2 + 1))), some (.int (zi ln)), some (.int (zi i)), some (.int (zi z24))]) (S2 := []) rfl (by simp only [zi_add, zi_sub, zi_mul, zi_neg, zi_and1, zi_and7, zi_and15, zi_and31, zi_and255]) (by simp only [zi_add, zi_sub, zi_mul, zi_neg, zi_and1, zi_and7, zi_and15, zi_and31, zi_and255]) ?_
                  refine gy_loc (i := 1) (x := zi (nx2 + 1)) rfl (fun z85 ez85 az85 bz85 => ?_)
                  show gz gPP gGG gcn _ _ 101 [some (.ref x), some (.int (zi z85)), some (.int (zi ln)), some (.int (zi i)), some (.int (zi z24))] [] h72 _
                  have gup := gF_up (f := gcf u f) (off := 0) (bits := ln) (s := i) (t := i + 1) (by omega)
                  have hel86 : gEl ty 93 ln 0 (i + 1) h72 := gEl.wd pr75 (by omega) (by omega)
                  refine gy_s 2 (pc' := 24) (L' := [some (.ref x), some (.int (zi z85)), some (.int (zi ln)), some (.int ((zi i) + zi 1)), some (.int (zi z24))]) (S' := []) (L2 := [some (.ref x), some (.int (zi z85)), some (.int (zi ln)), some (.int (zi (i + 1))), some (.int (zi z24))]) (S2 := []) rfl (by simp only [zi_add, zi_sub, zi_mul, zi_neg, zi_and1, zi_and7, zi_and15, zi_and31, zi_and255]) (by simp only [zi_add, zi_sub, zi_mul, zi_neg, zi_and1, zi_and7, zi_and15, zi_and31, zi_and255]) ?_
                  exact gz_wk (ihlp17 h72 z85 (i + 1) (tv2 + 1) (by omega) sh72 (by omega) (by omega) (by omega) (by omega) (by omega) s77 s78 s82 pr73 pr74 lp17k5 hel86) (gLw.s (gLw.s (gLw.s (gLw.s (gLw.n gLw.z)))))
        exact gz_wk (lp17 _ h10 nx 0 tv (Nat.lt_succ_self _) sh10 (by omega) (by omega) (by omega) (by omega) (by omega) s13 s15 s14 pr11 pr12 lp5k4 pr16) (gLw.s (gLw.s (gLw.s (gLw.s (gLw.n gLw.z)))))
  have gnn := gF_nn (f := gcf u f) (off := 0) (bits := 1) (s := 0)
  exact gz_wk (lp5 _ h1 0 1 0 (Nat.lt_succ_self _) sh1 (by omega) (by omega) (by omega) (by omega) s4 eh1 pr2 pr3 hyinc) (gLw.s (gLw.s (gLw.s (gLw.n (gLw.n gLw.z)))))
set_option maxRecDepth 20000 in
set_option maxHeartbeats 4000000 in
theorem cl_Suited0_suit (d : Nat) {ty : Nat → Nat} {h : gH} (hJ : gJ rT 1027 ty h) (x : Nat) (tx : ty x = 91) (uq : gUq ty) : gz gPP gGG gcn (d + 2) gt122 0 (gent [.ref x] 3) [] h (fun q _ => gSs rT 1027 ty [91004, 91008, 93999, 94999, 95999, 96999, 97999, 98999, 99999] h q.2.2 ∧ ∃ t1 : Int, gfin gt122 q.1 q.2.1 = some none ∧ q.2.2.2.2.2.2 x 4 = .int (zi t1) ∧ 0 ≤ t1 ∧ t1 ≤ 256) := by
  have hS : gSs rT 1027 ty [91004, 91008, 93999, 94999, 95999, 96999, 97999, 98999, 99999] h h := gSs.rf hJ
  refine gz_s 2 (pc' := 2) (L' := [some (.ref x), none, none]) (S' := [.int (zi 0), .ref x]) rfl ?_
  refine gs_put rfl (by decide) rfl hS tx rfl rfl rfl rfl (Or.inl rfl) (by decide) (by omega) (by omega) (fun h1 sh1 eh1 fh1 => ?_)
  refine gz_s 2 (pc' := 7) (L' := [some (.ref x), some (.int (zi 0)), none]) (S' := []) rfl ?_
  obtain ⟨c3, ec3, tc3⟩ := gJ.ref (k := 7) (G := gGG) sh1.1 tx rfl rfl rfl
  have hus4 : gUs ty 99 0 0 h1 := ⟨_, gRow.mk uq tc3 (by decide) (fun _ => rfl), gInc.zero⟩
  have lp2 : ∀ (fu : Nat) (h5 : gH) (sy : Int) (un : Int), (258 - sy).toNat < fu → gSs rT 1027 ty [91004, 91008, 93999, 94999, 95999, 96999, 97999, 98999, 99999] h h5 → (0 ≤ sy ∧ sy ≤ 257) → (0 ≤ un ∧ un ≤ 257) → (un ≤ sy) → h5.2.2.2.2 x 8 = .int (zi un) → gLv ty 96 sy 0 h5 → gUs ty 99 un sy h5 → gz gPP gGG gcn (d + 2) gt122 7 [some (.ref x), some (.int (zi sy)), none] [] h5 (fun q _ => gSs rT 1027 ty [91004, 91008, 93999, 94999, 95999, 96999, 97999, 98999, 99999] h q.2.2 ∧ ∃ t1 : Int, gfin gt122 q.1 q.2.1 = some none ∧ q.2.2.2.2.2.2 x 4 = .int (zi t1) ∧ 0 ≤ t1 ∧ t1 ≤ 256) := by
    intro fu
    induction fu with
    | zero => intro h5 sy un hm; exact absurd hm (Nat.not_lt_zero _)
    | succ fu ihlp2 =>
      intro h5 sy un lp2m sh5 lp2f0 lp2f1 lp2f2 lp2k0 lp2k1 lp2k2
      refine gz_s 2 (pc' := 11) (L' := [some (.ref x), some (.int (zi sy)), none]) (S' := [.int (zi 256), .int (zi sy)]) rfl ?_
      by_cases hc6 : (256 : Int) < sy
      · refine gy_icT (pc' := 63) rfl (by decide) (by decide) (by omega) (by omega) hc6 ?_
        have hlv7 : gLv ty 96 257 (1 - 1) h5 := by
          have e9 := lp2k1
          rw [(by omega : sy = 257)] at e9
          exact e9
        obtain ⟨u9, ru9, iu9⟩ := lp2k2
        have inc9 : gInc u9 un 257 := iu9.wd (by omega)
        refine gz_s 2 (pc' := 65) (L' := [some (.ref x), some (.int (zi 1)), none]) (S' := []) rfl ?_
        have lp8 : ∀ (fu : Nat) (h9 : gH) (jn : Int), (259 - jn).toNat < fu → gSs rT 1027 ty [91004, 91008, 93999, 94999, 95999, 96999, 97999, 98999, 99999] h h9 → (1 ≤ jn ∧ jn ≤ 258) → h9.2.2.2.2 x 8 = .int (zi un) → gRow ty 99 u9 h9 → gInc u9 un 257 → gLv ty 96 257 (jn - 1) h9 → gz gPP gGG gcn (d + 2) gt122 65 [some (.ref x), some (.int (zi jn)), none] [] h9 (fun q _ => gSs rT 1027 ty [91004, 91008, 93999, 94999, 95999, 96999, 97999, 98999, 99999] h q.2.2 ∧ ∃ t1 : Int, gfin gt122 q.1 q.2.1 = some none ∧ q.2.2.2.2.2.2 x 4 = .int (zi t1) ∧ 0 ≤ t1 ∧ t1 ≤ 256) := by
          intro fu
          induction fu with
          | zero => intro h9 jn hm; exact absurd hm (Nat.not_lt_zero _)
          | succ fu ihlp8 =>
            intro h9 jn lp8m sh9 lp8f0 lp8k0 lp8k1 lp8k2 lp8k3
            refine gz_s 2 (pc' := 67) (L' := [some (.ref x), some (.int (zi jn)), none]) (S' := [.ref x, .int (zi jn)]) rfl ?_
            refine gs_gtk rfl (by decide) rfl sh9.1 tx rfl rfl lp8k0 ?_
            by_cases hc10 : (un : Int) ≤ jn
            · refine gy_icT (pc' := 95) rfl (by decide) (by decide) (by omega) (by omega) hc10 ?_
              obtain ⟨c11, ec11, tc11⟩ := gJ.ref (k := 3) (G := gGG) sh9.1 tx rfl rfl rfl
              have rl9 := gRow.mk (h := h9) uq tc11 (by decide) (fun _ => rfl)
              refine gz_s 1 (pc' := 96) (L' := [some (.ref x), some (.int (zi jn)), none]) (S' := [.ref x]) rfl ?_
              refine gz_call rfl (by decide) rfl (by decide) (by decide) (gcal_of rfl rfl rfl (Nat.le_of_ble_eq_true rfl) (gJ.recv (G := gGG) sh9.1 tx rfl rfl)) (cl_Suited0_orderCodes _ sh9.1 x tx un lp8k0 (by omega) u9 (fun i => if i < 514 then gvI (h9.2.2.2.2 c11 i) else 0) uq lp8k1 rl9 lp8k2) (fun q12 _ wq12 => ?_)
              obtain ⟨pq12, oq12, hq12⟩ := q12
              obtain ⟨xq12, fq12_0, gq12, efq12_0, afq12_0, bfq12_0⟩ := wq12
              refine ⟨_, gq12, ?_⟩
              show gz gPP gGG gcn _ _ 99 [some (.ref x), some (.int (zi jn)), none] [] hq12 _
              have sq12 : gSs rT 1027 ty [91004, 91008, 93999, 94999, 95999, 96999, 97999, 98999, 99999] h hq12 := gSs.tr sh9 xq12 (by decide)
              have s13 := (xq12.2.2.2.2.2 x 8 (by rw [tx]; decide)).trans lp8k0
              have s14 := (xq12.2.2.2.2.2 x 3 (by rw [tx]; decide)).trans ec11
              have pr15 := gRow.fr xq12.2 (by decide) lp8k1
              have pr16 := gLv.fr xq12.2 (by decide) lp8k3
              have pr17 := gRow.fr xq12.2 (by decide) rl9
              exact gz_end (I := .return_) (len := 1) rfl (Or.inl rfl) ⟨sq12, fq12_0, rfl, efq12_0, (by omega), (by omega)⟩
            · refine gy_icF rfl (by decide) (by decide) (by omega) (by omega) hc10 ?_
              refine gz_s 2 (pc' := 75) (L' := [some (.ref x), some (.int (zi jn)), none]) (S' := [.int (zi (-1)), .ref x]) rfl ?_
              refine gz_call rfl (by decide) rfl (by decide) (by decide) (gcal_of rfl rfl rfl (Nat.le_of_ble_eq_true rfl) (gJ.recv (G := gGG) sh9.1 tx rfl rfl)) (cl_Suited0_leastGroup _ sh9.1 x tx (-1) (by omega) un lp8k0 (by omega) uq) (fun q18 _ wq18 => ?_)
              obtain ⟨pq18, oq18, hq18⟩ := q18
              obtain ⟨xq18, zq18, gq18, aq18, bq18⟩ := wq18
              refine ⟨_, gq18, ?_⟩
              show gz gPP gGG gcn _ _ 78 [some (.ref x), some (.int (zi jn)), none] [.int (zi zq18)] hq18 _
              have sq18 : gSs rT 1027 ty [91004, 91008, 93999, 94999, 95999, 96999, 97999, 98999, 99999] h hq18 := gSs.tr sh9 xq18 (by decide)
              have s19 := (xq18.2.2.2.2.2 x 8 (by rw [tx]; decide)).trans lp8k0
              have pr20 := gRow.fr xq18.2 (by decide) lp8k1
              have pr21 := gLv.fr xq18.2 (by decide) lp8k3
              refine gz_s 5 (pc' := 83) (L' := [some (.ref x), some (.int (zi jn)), some (.int (zi zq18))]) (S' := [.int (zi zq18), .ref x, .int (zi zq18), .ref x]) rfl ?_
              refine gz_call rfl (by decide) rfl (by decide) (by decide) (gcal_of rfl rfl rfl (Nat.le_of_ble_eq_true rfl) (gJ.recv (G := gGG) sq18.1 tx rfl rfl)) (cl_Suited0_leastGroup _ sq18.1 x tx zq18 (by omega) un s19 (by omega) uq) (fun q22 _ wq22 => ?_)
              obtain ⟨pq22, oq22, hq22⟩ := q22
              obtain ⟨xq22, zq22, gq22, aq22, bq22⟩ := wq22
              refine ⟨_, gq22, ?_⟩
              show gz gPP gGG gcn _ _ 86 [some (.ref x), some (.int (zi jn)), some (.int (zi zq18))] [.int (zi zq22), .int (zi zq18), .ref x] hq22 _
              have sq22 : gSs rT 1027 ty [91004, 91008, 93999, 94999, 95999, 96999, 97999, 98999, 99999] h hq22 := gSs.tr sq18 xq22 (by decide)
              have s23 := (xq22.2.2.2.2.2 x 8 (by rw [tx]; decide)).trans s19
              have pr24 := gRow.fr xq22.2 (by decide) pr20
              have pr25 := gLv.fr xq22.2 (by decide) pr21
              refine gz_call rfl (by decide) rfl (by decide) (by decide) (gcal_of rfl rfl rfl (Nat.le_of_ble_eq_true rfl) (gJ.recv (G := gGG) sq22.1 tx rfl rfl)) (cl_Suited0_joinGroups _ sq22.1 x tx zq18 (by omega) zq22 (by omega) un s23 (by omega) u9 (jn - 1) (by omega) uq pr24 lp8k2 pr25) (fun q26 _ wq26 => ?_)
              obtain ⟨pq26, oq26, hq26⟩ := q26
              obtain ⟨xq26, gq26, yq26_0⟩ := wq26
              refine ⟨_, gq26, ?_⟩
              show gz gPP gGG gcn _ _ 89 [some (.ref x), some (.int (zi jn)), some (.int (zi zq18))] [] hq26 _
              have sq26 : gSs rT 1027 ty [91004, 91008, 93999, 94999, 95999, 96999, 97999, 98999, 99999] h hq26 := gSs.tr sq22 xq26 (by decide)
              have s27 := (xq26.2.2.2.2.2 x 8 (by rw [tx]; decide)).trans s23
              have pr28 := gRow.fr xq26.2 (by decide) pr24
              have hlv29 : gLv ty 96 257 (jn + 1 - 1) hq26 := by
                have e9 := yq26_0
                rw [(by omega : jn - 1 + 1 = jn + 1 - 1)] at e9
                exact e9
              refine gy_s 2 (pc' := 65) (L' := [some (.ref x), some (.int ((zi jn) + zi 1)), some (.int (zi zq18))]) (S' := []) (L2 := [some (.ref x), some (.int (zi (jn + 1))), some (.int (zi zq18))]) (S2 := []) rfl (by simp only [zi_add, zi_sub, zi_mul, zi_neg, zi_and1, zi_and7, zi_and15, zi_and31, zi_and255]) (by simp only [zi_add, zi_sub, zi_mul, zi_neg, zi_and1, zi_and7, zi_and15, zi_and31, zi_and255]) ?_
              exact gz_wk (ihlp8 hq26 (jn + 1) (by omega) sq26 (by omega) s27 pr28 lp8k2 hlv29) (gLw.s (gLw.s (gLw.n gLw.z)))
        exact gz_wk (lp8 _ h5 1 (Nat.lt_succ_self _) sh5 (by omega) lp2k0 ru9 inc9 hlv7) (gLw.s (gLw.s (gLw.n gLw.z)))
      · refine gy_icF rfl (by decide) (by decide) (by omega) (by omega) hc6 ?_
        refine gz_s 1 (pc' := 15) (L' := [some (.ref x), some (.int (zi sy)), none]) (S' := [.ref x]) rfl ?_
        refine gs_gtr rfl (by decide) rfl sh5.1 tx rfl rfl rfl (fun c30 ec30 tc30 => ?_)
        refine gz_s 2 (pc' := 20) (L' := [some (.ref x), some (.int (zi sy)), none]) (S' := [.int (zi 0), .int (zi sy), .ref c30]) rfl ?_
        have hl31 : 257 ≤ h5.2.2.2.1 c30 ∧ h5.2.2.2.1 c30 ≤ 257 := gJ.rowl (G := gGG) sh5.1 tc30 rfl
        refine gs_ast rfl (by decide) sh5 tc30 rfl rfl rfl (by decide) (fun _ => rfl) (by omega) (by omega) (fun _ => (by decide : (96999 : Nat) ∈ ([91004, 91008, 93999, 94999, 95999, 96999, 97999, 98999, 99999] : List Nat))) (by omega) (by omega) (fun h32 sh32 eh32 fh32 => ?_)
        have pr33 := gUs.pt fh32 tc30 (by decide) lp2k2
        have s34 := (fh32 x 8 (fun q => absurd (((tx).symm.trans (congrArg ty q.1)).trans tc30) (by decide))).trans lp2k0
        have s35 := (fh32 x 3 (fun q => absurd (((tx).symm.trans (congrArg ty q.1)).trans tc30) (by decide))).trans ec30
        have pr36 := gEl.set (i := sy) (z := 0) uq tc30 (by decide) eh32 (by omega) (by omega)
        have hlv37 : gLv ty 96 (sy + 1) 0 h32 := gLv.step (z := 0) uq tc30 (by decide) fh32 eh32 (by omega) (by omega) lp2k1
        refine gz_s 1 (pc' := 22) (L' := [some (.ref x), some (.int (zi sy)), none]) (S' := [.ref x]) rfl ?_
        refine gs_gtr rfl (by decide) rfl sh32.1 tx rfl rfl rfl (fun c38 ec38 tc38 => ?_)
        refine gz_s 2 (pc' := 27) (L' := [some (.ref x), some (.int (zi sy)), none]) (S' := [.int (zi sy), .int (zi sy), .ref c38]) rfl ?_
        have hl39 : 257 ≤ h32.2.2.2.1 c38 ∧ h32.2.2.2.1 c38 ≤ 257 := gJ.rowl (G := gGG) sh32.1 tc38 rfl
        refine gs_ast rfl (by decide) sh32 tc38 rfl rfl rfl (by decide) (fun _ => rfl) (by omega) (by omega) (fun _ => (by decide : (98999 : Nat) ∈ ([91004, 91008, 93999, 94999, 95999, 96999, 97999, 98999, 99999] : List Nat))) (by omega) (by omega) (fun h40 sh40 eh40 fh40 => ?_)
        have pr41 := gUs.pt fh40 tc38 (by decide) pr33
        have pr42 := gEl.pt fh40 tc38 (by decide) pr36
        have pr43 := gLv.pt fh40 tc38 (by decide) hlv37
        have s44 := (fh40 x 8 (fun q => absurd (((tx).symm.trans (congrArg ty q.1)).trans tc38) (by decide))).trans s34
        have s45 := (fh40 x 3 (fun q => absurd (((tx).symm.trans (congrArg ty q.1)).trans tc38) (by decide))).trans s35
        have s46 := (fh40 x 6 (fun q => absurd (((tx).symm.trans (congrArg ty q.1)).trans tc38) (by decide))).trans ec38
        have pr47 := gEl.set (i := sy) (z := sy) uq tc38 (by decide) eh40 (by omega) (by omega)
        refine gz_s 1 (pc' := 29) (L' := [some (.ref x), some (.int (zi sy)), none]) (S' := [.ref x]) rfl ?_
        refine gs_gtr rfl (by decide) rfl sh40.1 tx rfl rfl rfl (fun c48 ec48 tc48 => ?_)
        refine gz_s 1 (pc' := 33) (L' := [some (.ref x), some (.int (zi sy)), none]) (S' := [.int (zi sy), .ref c48]) rfl ?_
        have hl49 : 257 ≤ h40.2.2.2.1 c48 ∧ h40.2.2.2.1 c48 ≤ 257 := gJ.rowl (G := gGG) sh40.1 tc48 rfl
        refine gs_ald rfl (by decide) sh40.1 tc48 rfl rfl rfl (by decide) (fun _ => rfl) (by omega) (by omega) (fun z50 ez50 az50 bz50 => ?_)
        by_cases hc51 : (z50 : Int) ≤ 0
        · refine gy_ifT (pc' := 57) rfl (by decide) (by decide) (by omega) hc51 ?_
          have hus52 : gUs ty 99 un (sy + 1) h40 := by
            obtain ⟨u8, a8, b8⟩ := pr41
            exact ⟨u8, a8, b8.wd (by omega)⟩
          refine gy_s 2 (pc' := 7) (L' := [some (.ref x), some (.int ((zi sy) + zi 1)), none]) (S' := []) (L2 := [some (.ref x), some (.int (zi (sy + 1))), none]) (S2 := []) rfl (by simp only [zi_add, zi_sub, zi_mul, zi_neg, zi_and1, zi_and7, zi_and15, zi_and31, zi_and255]) (by simp only [zi_add, zi_sub, zi_mul, zi_neg, zi_and1, zi_and7, zi_and15, zi_and31, zi_and255]) ?_
          exact gz_wk (ihlp2 h40 (sy + 1) un (by omega) sh40 (by omega) (by omega) (by omega) s44 pr43 hus52) (gLw.s (gLw.s (gLw.n gLw.z)))
        · refine gy_ifF rfl (by decide) (by decide) (by omega) hc51 ?_
          refine gz_s 1 (pc' := 38) (L' := [some (.ref x), some (.int (zi sy)), none]) (S' := [.ref x]) rfl ?_
          refine gs_gtr rfl (by decide) rfl sh40.1 tx rfl rfl rfl (fun c53 ec53 tc53 => ?_)
          have ee54 : c3 = c53 := uq c3 c53 (tc3.trans tc53.symm) (by rw [tc3]; decide) (by rw [tc3]; decide)
          subst ee54
          refine gz_s 1 (pc' := 42) (L' := [some (.ref x), some (.int (zi sy)), none]) (S' := [.ref x, .ref c3]) rfl ?_
          refine gs_gtk rfl (by decide) rfl sh40.1 tx rfl rfl s44 ?_
          refine gz_s 1 (pc' := 46) (L' := [some (.ref x), some (.int (zi sy)), none]) (S' := [.int (zi sy), .int (zi un), .ref c3]) rfl ?_
          obtain ⟨u9, ru9, iu9⟩ := pr41
          have hl55 : 257 ≤ h40.2.2.2.1 c3 ∧ h40.2.2.2.1 c3 ≤ 257 := gJ.rowl (G := gGG) sh40.1 tc3 rfl
          refine gs_ast rfl (by decide) sh40 tc3 rfl rfl rfl (by decide) (fun _ => rfl) (by omega) (by omega) (fun _ => (by decide : (99999 : Nat) ∈ ([91004, 91008, 93999, 94999, 95999, 96999, 97999, 98999, 99999] : List Nat))) (by omega) (by omega) (fun h56 sh56 eh56 fh56 => ?_)
          have pr57 := gEl.pt fh56 tc3 (by decide) pr42
          have pr58 := gLv.pt fh56 tc3 (by decide) pr43
          have pr59 := gEl.pt fh56 tc3 (by decide) pr47
          have pr60 := gRow.put (i := un) (z := sy) uq tc3 (by decide) fh56 eh56 (by omega) (by omega) ru9
          have s61 := (fh56 x 8 (fun q => absurd (((tx).symm.trans (congrArg ty q.1)).trans tc3) (by decide))).trans s44
          have s62 := (fh56 x 3 (fun q => absurd (((tx).symm.trans (congrArg ty q.1)).trans tc3) (by decide))).trans s45
          have s63 := (fh56 x 6 (fun q => absurd (((tx).symm.trans (congrArg ty q.1)).trans tc3) (by decide))).trans s46
          have s64 := (fh56 x 5 (fun q => absurd (((tx).symm.trans (congrArg ty q.1)).trans tc3) (by decide))).trans ec48
          have s65 := (fh56 x 7 (fun q => absurd (((tx).symm.trans (congrArg ty q.1)).trans tc3) (by decide))).trans ec53
          have pr66 := gEl.set (i := un) (z := sy) uq tc3 (by decide) eh56 (by omega) (by omega)
          have hus67 : gUs ty 99 (un + 1) (sy + 1) h56 := ⟨_, pr60, iu9.put (by omega) (by omega)⟩
          refine gz_s 2 (pc' := 49) (L' := [some (.ref x), some (.int (zi sy)), none]) (S' := [.ref x, .ref x]) rfl ?_
          refine gs_gtk rfl (by decide) rfl sh56.1 tx rfl rfl s61 ?_
          refine gy_s 2 (pc' := 54) (L' := [some (.ref x), some (.int (zi sy)), none]) (S' := [.int ((zi un) + (zi 1)), .ref x]) (L2 := [some (.ref x), some (.int (zi sy)), none]) (S2 := [.int (zi (un + 1)), .ref x]) rfl (by simp only [zi_add, zi_sub, zi_mul, zi_neg, zi_and1, zi_and7, zi_and15, zi_and31, zi_and255]) (by simp only [zi_add, zi_sub, zi_mul, zi_neg, zi_and1, zi_and7, zi_and15, zi_and31, zi_and255]) ?_
          refine gs_put rfl (by decide) rfl sh56 tx rfl rfl rfl rfl (Or.inl rfl) (by decide) (by omega) (by omega) (fun h68 sh68 eh68 fh68 => ?_)
          have pr69 := gEl.pt fh68 tx (by decide) pr57
          have pr70 := gLv.pt fh68 tx (by decide) pr58
          have pr71 := gEl.pt fh68 tx (by decide) pr59
          have pr72 := gEl.pt fh68 tx (by decide) pr66
          have pr73 := gUs.pt fh68 tx (by decide) hus67
          have s74 := (fh68 x 3 (fun q => absurd q.2 (by decide))).trans s62
          have s75 := (fh68 x 6 (fun q => absurd q.2 (by decide))).trans s63
          have s76 := (fh68 x 5 (fun q => absurd q.2 (by decide))).trans s64
          have s77 := (fh68 x 7 (fun q => absurd q.2 (by decide))).trans s65
          refine gy_s 2 (pc' := 7) (L' := [some (.ref x), some (.int ((zi sy) + zi 1)), none]) (S' := []) (L2 := [some (.ref x), some (.int (zi (sy + 1))), none]) (S2 := []) rfl (by simp only [zi_add, zi_sub, zi_mul, zi_neg, zi_and1, zi_and7, zi_and15, zi_and31, zi_and255]) (by simp only [zi_add, zi_sub, zi_mul, zi_neg, zi_and1, zi_and7, zi_and15, zi_and31, zi_and255]) ?_
          exact gz_wk (ihlp2 h68 (sy + 1) (un + 1) (by omega) sh68 (by omega) (by omega) (by omega) eh68 pr70 pr73) (gLw.s (gLw.s (gLw.n gLw.z)))
  exact gz_wk (lp2 _ h1 0 0 (Nat.lt_succ_self _) sh1 (by omega) (by omega) (by omega) eh1 (gLv.zero (ty := ty) (q := 96) (v := 0) (h := h1) (fun _ => rfl)) hus4) (gLw.s (gLw.s (gLw.n gLw.z)))
set_option maxRecDepth 20000 in
set_option maxHeartbeats 4000000 in
theorem cl_Suited1_forget (d : Nat) {ty : Nat → Nat} {h : gH} (hJ : gJ rT 1027 ty h) (x : Nat) (tx : ty x = 92) (uq : gUq ty) : gz gPP gGG gcn (d + 1) gt105 0 (gent [.ref x] 1) [] h (fun q _ => gSs rT 1027 ty [80999] h q.2.2 ∧ gfin gt105 q.1 q.2.1 = some none) := by
  have hS : gSs rT 1027 ty [80999] h h := gSs.rf hJ
  refine gz_s 1 (pc' := 1) (L' := [some (.ref x)]) (S' := [.ref x]) rfl ?_
  refine gs_gtr rfl (by decide) rfl hS.1 tx rfl rfl rfl (fun c1 ec1 tc1 => ?_)
  refine gz_s 1 (pc' := 5) (L' := [some (.ref x)]) (S' := [.int (zi 0), .ref c1]) rfl ?_
  refine gz_call rfl (by decide) rfl (by decide) (by decide) (gcal_of rfl rfl rfl (Nat.le_of_ble_eq_true rfl) rfl) (cl_fill_weights1 _ hS.1 c1 tc1 0 (by omega) ) (fun q2 _ wq2 => ?_)
  obtain ⟨pq2, oq2, hq2⟩ := q2
  obtain ⟨xq2, gq2⟩ := wq2
  refine ⟨_, gq2, ?_⟩
  show gz gPP gGG gcn _ _ 8 [some (.ref x)] [] hq2 _
  have sq2 : gSs rT 1027 ty [80999] h hq2 := gSs.tr hS xq2 (by decide)
  have s3 := (xq2.2.2.2.2.2 x 5 (by rw [tx]; decide)).trans ec1
  refine gz_s 1 (pc' := 9) (L' := [some (.ref x)]) (S' := [.ref x]) rfl ?_
  refine gs_gtk rfl (by decide) rfl sq2.1 tx rfl rfl s3 ?_
  refine gz_s 2 (pc' := 16) (L' := [some (.ref x)]) (S' := [.int (zi 1), .int (zi 256), .ref c1]) rfl ?_
  have hl4 : 257 ≤ hq2.2.2.2.1 c1 ∧ hq2.2.2.2.1 c1 ≤ 257 := gJ.rowl (G := gGG) sq2.1 tc1 rfl
  refine gs_ast rfl (by decide) sq2 tc1 rfl rfl rfl (by decide) (fun _ => rfl) (by omega) (by omega) (fun _ => (by decide : (80999 : Nat) ∈ ([80999] : List Nat))) (by omega) (by omega) (fun h5 sh5 eh5 fh5 => ?_)
  have s6 := (fh5 x 5 (fun q => absurd (((tx).symm.trans (congrArg ty q.1)).trans tc1) (by decide))).trans s3
  have pr7 := gEl.set (i := 256) (z := 1) uq tc1 (by decide) eh5 (by omega) (by omega)
  exact gz_end (I := .return_) (len := 1) rfl (Or.inl rfl) ⟨sh5, rfl⟩
set_option maxRecDepth 20000 in
set_option maxHeartbeats 4000000 in
theorem cl_Suited1_countSymbol (d : Nat) {ty : Nat → Nat} {h : gH} (hJ : gJ rT 1027 ty h) (x : Nat) (tx : ty x = 92) (s : Int) (rs : (-2147483648) ≤ s ∧ s ≤ 2147483647) (uq : gUq ty) : gz gPP gGG gcn (d + 0) gt116 0 (gent [.ref x, .int (zi s)] 2) [] h (fun q _ => gSs rT 1027 ty [80999] h q.2.2 ∧ gfin gt116 q.1 q.2.1 = some none) := by
  have hS : gSs rT 1027 ty [80999] h h := gSs.rf hJ
  refine gz_s 1 (pc' := 1) (L' := [some (.ref x), some (.int (zi s))]) (S' := [.int (zi s)]) rfl ?_
  by_cases hc1 : (s : Int) < 0
  · refine gy_ifT (pc' := 21) rfl (by decide) (by decide) (by omega) hc1 ?_
    exact gz_end (I := .return_) (len := 1) rfl (Or.inl rfl) ⟨hS, rfl⟩
  · refine gy_ifF rfl (by decide) (by decide) (by omega) hc1 ?_
    refine gz_s 2 (pc' := 8) (L' := [some (.ref x), some (.int (zi s))]) (S' := [.int (zi 256), .int (zi s)]) rfl ?_
    by_cases hc2 : (256 : Int) ≤ s
    · refine gy_icT (pc' := 21) rfl (by decide) (by decide) (by omega) (by omega) hc2 ?_
      exact gz_end (I := .return_) (len := 1) rfl (Or.inl rfl) ⟨hS, rfl⟩
    · refine gy_icF rfl (by decide) (by decide) (by omega) (by omega) hc2 ?_
      refine gz_s 1 (pc' := 12) (L' := [some (.ref x), some (.int (zi s))]) (S' := [.ref x]) rfl ?_
      refine gs_gtr rfl (by decide) rfl hS.1 tx rfl rfl rfl (fun c3 ec3 tc3 => ?_)
      refine gz_s 2 (pc' := 17) (L' := [some (.ref x), some (.int (zi s))]) (S' := [.int (zi s), .ref c3, .int (zi s), .ref c3]) rfl ?_
      have hl4 : 257 ≤ h.2.2.2.1 c3 ∧ h.2.2.2.1 c3 ≤ 257 := gJ.rowl (G := gGG) hS.1 tc3 rfl
      refine gs_ald rfl (by decide) hS.1 tc3 rfl rfl rfl (by decide) (fun _ => rfl) (by omega) (by omega) (fun z5 ez5 az5 bz5 => ?_)
      refine gy_s 2 (pc' := 20) (L' := [some (.ref x), some (.int (zi s))]) (S' := [.int ((zi z5) + (zi 1)), .int (zi s), .ref c3]) (L2 := [some (.ref x), some (.int (zi s))]) (S2 := [.int (zi (z5 + 1)), .int (zi s), .ref c3]) rfl (by simp only [zi_add, zi_sub, zi_mul, zi_neg, zi_and1, zi_and7, zi_and15, zi_and31, zi_and255]) (by simp only [zi_add, zi_sub, zi_mul, zi_neg, zi_and1, zi_and7, zi_and15, zi_and31, zi_and255]) ?_
      have hl6 : 257 ≤ h.2.2.2.1 c3 ∧ h.2.2.2.1 c3 ≤ 257 := gJ.rowl (G := gGG) hS.1 tc3 rfl
      refine gy_any (fun z8 ez8 az8 bz8 => ?_)
      refine gs_ast rfl (by decide) hS tc3 rfl rfl rfl (by decide) (fun _ => rfl) (by omega) (by omega) (fun _ => (by decide : (80999 : Nat) ∈ ([80999] : List Nat))) (by omega) (by omega) (fun h7 sh7 eh7 fh7 => ?_)
      have s9 := (fh7 x 5 (fun q => absurd (((tx).symm.trans (congrArg ty q.1)).trans tc3) (by decide))).trans ec3
      have pr10 := gEl.set (i := s) (z := z8) uq tc3 (by decide) eh7 (by omega) (by omega)
      exact gz_end (I := .return_) (len := 1) rfl (Or.inl rfl) ⟨sh7, rfl⟩
set_option maxRecDepth 20000 in
set_option maxHeartbeats 4000000 in
theorem cl_Suited1_leastGroup (d : Nat) {ty : Nat → Nat} {h : gH} (hJ : gJ rT 1027 ty h) (x : Nat) (tx : ty x = 92) (e : Int) (re : (-1) ≤ e ∧ e ≤ 256) (n : Int) (en : h.2.2.2.2 x 8 = .int (zi n)) (rn : 0 ≤ n ∧ n ≤ 257) (uq : gUq ty) : gz gPP gGG gcn (d + 1) gt123 0 (gent [.ref x, .int (zi e)] 6) [] h (fun q _ => gSs rT 1027 ty [] h q.2.2 ∧ ∃ z : Int, gfin gt123 q.1 q.2.1 = some (some (.int (zi z))) ∧ 0 ≤ z ∧ z ≤ 256) := by
  have hS : gSs rT 1027 ty [] h h := gSs.rf hJ
  refine gz_s 4 (pc' := 4) (L' := [some (.ref x), some (.int (zi e)), some (.int (zi (-1))), some (.int (zi 0)), none, none]) (S' := []) rfl ?_
  have lp1 : ∀ (fu : Nat) (h2 : gH) (ls : Int) (i : Int), (258 - i).toNat < fu → gSs rT 1027 ty [] h h2 → ((-1) ≤ ls ∧ ls ≤ 256) → (0 ≤ i ∧ i ≤ 257) → (i ≤ n) → h2.2.2.2.2 x 8 = .int (zi n) → gz gPP gGG gcn (d + 1) gt123 4 [some (.ref x), some (.int (zi e)), some (.int (zi ls)), some (.int (zi i)), none, none] [] h2 (fun q _ => gSs rT 1027 ty [] h q.2.2 ∧ ∃ z : Int, gfin gt123 q.1 q.2.1 = some (some (.int (zi z))) ∧ 0 ≤ z ∧ z ≤ 256) := by
    intro fu
    induction fu with
    | zero => intro h2 ls i hm; exact absurd hm (Nat.not_lt_zero _)
    | succ fu ihlp1 =>
      intro h2 ls i lp1m sh2 lp1f0 lp1f1 lp1f2 lp1k0
      refine gz_s 2 (pc' := 6) (L' := [some (.ref x), some (.int (zi e)), some (.int (zi ls)), some (.int (zi i)), none, none]) (S' := [.ref x, .int (zi i)]) rfl ?_
      refine gs_gtk rfl (by decide) rfl sh2.1 tx rfl rfl lp1k0 ?_
      by_cases hc3 : (n : Int) ≤ i
      · refine gy_icT (pc' := 77) rfl (by decide) (by decide) (by omega) (by omega) hc3 ?_
        refine gz_s 2 (pc' := 79) (L' := [some (.ref x), some (.int (zi e)), some (.int (zi ls)), some (.int (zi i)), none, none]) (S' := [.int (zi ls), .int (zi 0)]) rfl ?_
        refine gz_call rfl (by decide) rfl (by decide) (by decide) (gcal_of rfl rfl rfl (Nat.le_of_ble_eq_true rfl) rfl) (cl_Math_max _ sh2.1 0 (by omega) ls (by omega) ) (fun q4 _ wq4 => ?_)
        obtain ⟨pq4, oq4, hq4⟩ := q4
        obtain ⟨xq4, zq4, gq4, aq4, bq4, uq4_0, uq4_1, uq4_2⟩ := wq4
        refine ⟨_, gq4, ?_⟩
        show gz gPP gGG gcn _ _ 82 [some (.ref x), some (.int (zi e)), some (.int (zi ls)), some (.int (zi i)), none, none] [.int (zi zq4)] hq4 _
        have sq4 : gSs rT 1027 ty [] h hq4 := gSs.tr sh2 xq4 (by decide)
        have s5 := (xq4.2.2.2.2.2 x 8 (by rw [tx]; decide)).trans lp1k0
        exact gz_end (I := .ireturn) (len := 1) rfl (Or.inl rfl) ⟨sq4, zq4, rfl, (by omega), (by omega)⟩
      · refine gy_icF rfl (by decide) (by decide) (by omega) (by omega) hc3 ?_
        refine gz_s 1 (pc' := 13) (L' := [some (.ref x), some (.int (zi e)), some (.int (zi ls)), some (.int (zi i)), none, none]) (S' := [.ref x]) rfl ?_
        refine gs_gtr rfl (by decide) rfl sh2.1 tx rfl rfl rfl (fun c6 ec6 tc6 => ?_)
        refine gz_s 1 (pc' := 17) (L' := [some (.ref x), some (.int (zi e)), some (.int (zi ls)), some (.int (zi i)), none, none]) (S' := [.int (zi i), .ref c6]) rfl ?_
        have hl7 : 257 ≤ h2.2.2.2.1 c6 ∧ h2.2.2.2.1 c6 ≤ 257 := gJ.rowl (G := gGG) sh2.1 tc6 rfl
        refine gs_ald rfl (by decide) sh2.1 tc6 rfl rfl rfl (by decide) (fun _ => rfl) (by omega) (by omega) (fun z8 ez8 az8 bz8 => ?_)
        refine gz_s 2 (pc' := 21) (L' := [some (.ref x), some (.int (zi e)), some (.int (zi ls)), some (.int (zi i)), some (.int (zi z8)), none]) (S' := [.ref x]) rfl ?_
        refine gs_gtr rfl (by decide) rfl sh2.1 tx rfl rfl rfl (fun c9 ec9 tc9 => ?_)
        refine gz_s 1 (pc' := 26) (L' := [some (.ref x), some (.int (zi e)), some (.int (zi ls)), some (.int (zi i)), some (.int (zi z8)), none]) (S' := [.int (zi z8), .ref c9]) rfl ?_
        have hl10 : 257 ≤ h2.2.2.2.1 c9 ∧ h2.2.2.2.1 c9 ≤ 257 := gJ.rowl (G := gGG) sh2.1 tc9 rfl
        refine gs_ald rfl (by decide) sh2.1 tc9 rfl rfl rfl (by decide) (fun _ => rfl) (by omega) (by omega) (fun z11 ez11 az11 bz11 => ?_)
        have jn12 : ∀ (jn12v0 : Int), ((0 ≤ jn12v0) ∧ (jn12v0 ≤ 1)) → gz gPP gGG gcn (d + 1) gt123 41 [some (.ref x), some (.int (zi e)), some (.int (zi ls)), some (.int (zi i)), some (.int (zi z8)), none] [.int (zi jn12v0)] h2 (fun q _ => gSs rT 1027 ty [] h q.2.2 ∧ ∃ z : Int, gfin gt123 q.1 q.2.1 = some (some (.int (zi z))) ∧ 0 ≤ z ∧ z ≤ 256) := by
          intro jn12v0 jn12d
          refine gz_s 2 (pc' := 45) (L' := [some (.ref x), some (.int (zi e)), some (.int (zi ls)), some (.int (zi i)), some (.int (zi z8)), some (.int (zi jn12v0))]) (S' := [.int (zi jn12v0)]) rfl ?_
          by_cases hc13 : (jn12v0 : Int) = 0
          · refine gy_ifT (pc' := 71) rfl (by decide) (by decide) (by omega) hc13 ?_
            refine gy_s 2 (pc' := 4) (L' := [some (.ref x), some (.int (zi e)), some (.int (zi ls)), some (.int ((zi i) + zi 1)), some (.int (zi z8)), some (.int (zi jn12v0))]) (S' := []) (L2 := [some (.ref x), some (.int (zi e)), some (.int (zi ls)), some (.int (zi (i + 1))), some (.int (zi z8)), some (.int (zi jn12v0))]) (S2 := []) rfl (by simp only [zi_add, zi_sub, zi_mul, zi_neg, zi_and1, zi_and7, zi_and15, zi_and31, zi_and255]) (by simp only [zi_add, zi_sub, zi_mul, zi_neg, zi_and1, zi_and7, zi_and15, zi_and31, zi_and255]) ?_
            exact gz_wk (ihlp1 h2 ls (i + 1) (by omega) sh2 (by omega) (by omega) (by omega) lp1k0) (gLw.s (gLw.s (gLw.s (gLw.s (gLw.n (gLw.n gLw.z))))))
          · refine gy_ifF rfl (by decide) (by decide) (by omega) hc13 ?_
            refine gz_s 1 (pc' := 49) (L' := [some (.ref x), some (.int (zi e)), some (.int (zi ls)), some (.int (zi i)), some (.int (zi z8)), some (.int (zi jn12v0))]) (S' := [.int (zi ls)]) rfl ?_
            by_cases hc14 : (ls : Int) < 0
            · refine gy_ifT (pc' := 68) rfl (by decide) (by decide) (by omega) hc14 ?_
              refine gy_s 4 (pc' := 4) (L' := [some (.ref x), some (.int (zi e)), some (.int (zi z8)), some (.int ((zi i) + zi 1)), some (.int (zi z8)), some (.int (zi jn12v0))]) (S' := []) (L2 := [some (.ref x), some (.int (zi e)), some (.int (zi z8)), some (.int (zi (i + 1))), some (.int (zi z8)), some (.int (zi jn12v0))]) (S2 := []) rfl (by simp only [zi_add, zi_sub, zi_mul, zi_neg, zi_and1, zi_and7, zi_and15, zi_and31, zi_and255]) (by simp only [zi_add, zi_sub, zi_mul, zi_neg, zi_and1, zi_and7, zi_and15, zi_and31, zi_and255]) ?_
              exact gz_wk (ihlp1 h2 z8 (i + 1) (by omega) sh2 (by omega) (by omega) (by omega) lp1k0) (gLw.s (gLw.s (gLw.s (gLw.s (gLw.n (gLw.n gLw.z))))))
            · refine gy_ifF rfl (by decide) (by decide) (by omega) hc14 ?_
              refine gz_s 1 (pc' := 53) (L' := [some (.ref x), some (.int (zi e)), some (.int (zi ls)), some (.int (zi i)), some (.int (zi z8)), some (.int (zi jn12v0))]) (S' := [.ref x]) rfl ?_
              refine gs_gtk rfl (by decide) rfl sh2.1 tx rfl rfl ec9 ?_
              refine gz_s 1 (pc' := 58) (L' := [some (.ref x), some (.int (zi e)), some (.int (zi ls)), some (.int (zi i)), some (.int (zi z8)), some (.int (zi jn12v0))]) (S' := [.int (zi z8), .ref c9]) rfl ?_
              have hl15 : 257 ≤ h2.2.2.2.1 c9 ∧ h2.2.2.2.1 c9 ≤ 257 := gJ.rowl (G := gGG) sh2.1 tc9 rfl
              refine gs_ald rfl (by decide) sh2.1 tc9 rfl rfl rfl (by decide) (fun _ => rfl) (by omega) (by omega) (fun z16 ez16 az16 bz16 => ?_)
              refine gz_s 1 (pc' := 60) (L' := [some (.ref x), some (.int (zi e)), some (.int (zi ls)), some (.int (zi i)), some (.int (zi z8)), some (.int (zi jn12v0))]) (S' := [.ref x, .int (zi z16)]) rfl ?_
              refine gs_gtk rfl (by decide) rfl sh2.1 tx rfl rfl ec9 ?_
              refine gz_s 1 (pc' := 64) (L' := [some (.ref x), some (.int (zi e)), some (.int (zi ls)), some (.int (zi i)), some (.int (zi z8)), some (.int (zi jn12v0))]) (S' := [.int (zi ls), .ref c9, .int (zi z16)]) rfl ?_
              have hl17 : 257 ≤ h2.2.2.2.1 c9 ∧ h2.2.2.2.1 c9 ≤ 257 := gJ.rowl (G := gGG) sh2.1 tc9 rfl
              refine gs_ald rfl (by decide) sh2.1 tc9 rfl rfl rfl (by decide) (fun _ => rfl) (by omega) (by omega) (fun z18 ez18 az18 bz18 => ?_)
              by_cases hc19 : (z18 : Int) < z16
              · refine gy_icT (pc' := 71) rfl (by decide) (by decide) (by omega) (by omega) hc19 ?_
                refine gy_s 2 (pc' := 4) (L' := [some (.ref x), some (.int (zi e)), some (.int (zi ls)), some (.int ((zi i) + zi 1)), some (.int (zi z8)), some (.int (zi jn12v0))]) (S' := []) (L2 := [some (.ref x), some (.int (zi e)), some (.int (zi ls)), some (.int (zi (i + 1))), some (.int (zi z8)), some (.int (zi jn12v0))]) (S2 := []) rfl (by simp only [zi_add, zi_sub, zi_mul, zi_neg, zi_and1, zi_and7, zi_and15, zi_and31, zi_and255]) (by simp only [zi_add, zi_sub, zi_mul, zi_neg, zi_and1, zi_and7, zi_and15, zi_and31, zi_and255]) ?_
                exact gz_wk (ihlp1 h2 ls (i + 1) (by omega) sh2 (by omega) (by omega) (by omega) lp1k0) (gLw.s (gLw.s (gLw.s (gLw.s (gLw.n (gLw.n gLw.z))))))
              · refine gy_icF rfl (by decide) (by decide) (by omega) (by omega) hc19 ?_
                refine gy_s 4 (pc' := 4) (L' := [some (.ref x), some (.int (zi e)), some (.int (zi z8)), some (.int ((zi i) + zi 1)), some (.int (zi z8)), some (.int (zi jn12v0))]) (S' := []) (L2 := [some (.ref x), some (.int (zi e)), some (.int (zi z8)), some (.int (zi (i + 1))), some (.int (zi z8)), some (.int (zi jn12v0))]) (S2 := []) rfl (by simp only [zi_add, zi_sub, zi_mul, zi_neg, zi_and1, zi_and7, zi_and15, zi_and31, zi_and255]) (by simp only [zi_add, zi_sub, zi_mul, zi_neg, zi_and1, zi_and7, zi_and15, zi_and31, zi_and255]) ?_
                exact gz_wk (ihlp1 h2 z8 (i + 1) (by omega) sh2 (by omega) (by omega) (by omega) lp1k0) (gLw.s (gLw.s (gLw.s (gLw.s (gLw.n (gLw.n gLw.z))))))
        by_cases hc20 : (z11 : Int) ≤ 0
        · refine gy_ifT (pc' := 40) rfl (by decide) (by decide) (by omega) hc20 ?_
          refine gz_s 1 (pc' := 41) (L' := [some (.ref x), some (.int (zi e)), some (.int (zi ls)), some (.int (zi i)), some (.int (zi z8)), none]) (S' := [.int (zi 0)]) rfl ?_
          exact jn12 0 (by omega)
        · refine gy_ifF rfl (by decide) (by decide) (by omega) hc20 ?_
          refine gz_s 2 (pc' := 33) (L' := [some (.ref x), some (.int (zi e)), some (.int (zi ls)), some (.int (zi i)), some (.int (zi z8)), none]) (S' := [.int (zi e), .int (zi z8)]) rfl ?_
          by_cases hc21 : (z8 : Int) = e
          · refine gy_icT (pc' := 40) rfl (by decide) (by decide) (by omega) (by omega) hc21 ?_
            refine gz_s 1 (pc' := 41) (L' := [some (.ref x), some (.int (zi e)), some (.int (zi ls)), some (.int (zi i)), some (.int (zi z8)), none]) (S' := [.int (zi 0)]) rfl ?_
            exact jn12 0 (by omega)
          · refine gy_icF rfl (by decide) (by decide) (by omega) (by omega) hc21 ?_
            refine gz_s 2 (pc' := 41) (L' := [some (.ref x), some (.int (zi e)), some (.int (zi ls)), some (.int (zi i)), some (.int (zi z8)), none]) (S' := [.int (zi 1)]) rfl ?_
            exact jn12 1 (by omega)
  exact gz_wk (lp1 _ h (-1) 0 (Nat.lt_succ_self _) hS (by omega) (by omega) (by omega) en) (gLw.s (gLw.s (gLw.s (gLw.s (gLw.n (gLw.n gLw.z))))))
set_option maxRecDepth 20000 in
set_option maxHeartbeats 4000000 in
theorem cl_Suited1_joinGroups (d : Nat) {ty : Nat → Nat} {h : gH} (hJ : gJ rT 1027 ty h) (x : Nat) (tx : ty x = 92) (a : Int) (ra : 0 ≤ a ∧ a ≤ 256) (b : Int) (rb : 0 ≤ b ∧ b ≤ 256) (n : Int) (en : h.2.2.2.2 x 8 = .int (zi n)) (rn : 0 ≤ n ∧ n ≤ 257) (u : Nat → Int) (v : Int) (rv : 0 ≤ v ∧ v ≤ 256) (uq : gUq ty) (hyf85 : gRow ty 85 u h) (hyinc : gInc u n 257) (hylv : gLv ty 79 257 v h) : gz gPP gGG gcn (d + 1) gt124 0 (gent [.ref x, .int (zi a), .int (zi b)] 7) [] h (fun q _ => gSs rT 1027 ty [79999, 80999, 81999] h q.2.2 ∧ gfin gt124 q.1 q.2.1 = some none ∧ (gLv ty 79 257 (v + 1) q.2.2)) := by
  have hS : gSs rT 1027 ty [79999, 80999, 81999] h h := gSs.rf hJ
  refine gz_s 2 (pc' := 2) (L' := [some (.ref x), some (.int (zi a)), some (.int (zi b)), none, none, none, none]) (S' := [.int (zi b), .int (zi a)]) rfl ?_
  refine gz_call rfl (by decide) rfl (by decide) (by decide) (gcal_of rfl rfl rfl (Nat.le_of_ble_eq_true rfl) rfl) (cl_Math_max _ hS.1 a (by omega) b (by omega) ) (fun q1 _ wq1 => ?_)
  obtain ⟨pq1, oq1, hq1⟩ := q1
  obtain ⟨xq1, zq1, gq1, aq1, bq1, uq1_0, uq1_1, uq1_2⟩ := wq1
  refine ⟨_, gq1, ?_⟩
  show gz gPP gGG gcn _ _ 5 [some (.ref x), some (.int (zi a)), some (.int (zi b)), none, none, none, none] [.int (zi zq1)] hq1 _
  have sq1 : gSs rT 1027 ty [79999, 80999, 81999] h hq1 := gSs.tr hS xq1 (by decide)
  have s2 := (xq1.2.2.2.2.2 x 8 (by rw [tx]; decide)).trans en
  have pr3 := gRow.fr xq1.2 (by decide) hyf85
  have pr4 := gLv.fr xq1.2 (by decide) hylv
  refine gz_s 2 (pc' := 7) (L' := [some (.ref x), some (.int (zi a)), some (.int (zi b)), some (.int (zi zq1)), none, none, none]) (S' := [.ref x]) rfl ?_
  refine gs_gtr rfl (by decide) rfl sq1.1 tx rfl rfl rfl (fun c5 ec5 tc5 => ?_)
  refine gz_s 1 (pc' := 11) (L' := [some (.ref x), some (.int (zi a)), some (.int (zi b)), some (.int (zi zq1)), none, none, none]) (S' := [.int (zi a), .ref c5]) rfl ?_
  have hl6 : 257 ≤ hq1.2.2.2.1 c5 ∧ hq1.2.2.2.1 c5 ≤ 257 := gJ.rowl (G := gGG) sq1.1 tc5 rfl
  refine gs_ald rfl (by decide) sq1.1 tc5 rfl rfl rfl (by decide) (fun _ => rfl) (by omega) (by omega) (fun z7 ez7 az7 bz7 => ?_)
  refine gz_s 1 (pc' := 13) (L' := [some (.ref x), some (.int (zi a)), some (.int (zi b)), some (.int (zi zq1)), none, none, none]) (S' := [.ref x, .int (zi z7)]) rfl ?_
  refine gs_gtk rfl (by decide) rfl sq1.1 tx rfl rfl ec5 ?_
  refine gz_s 1 (pc' := 17) (L' := [some (.ref x), some (.int (zi a)), some (.int (zi b)), some (.int (zi zq1)), none, none, none]) (S' := [.int (zi b), .ref c5, .int (zi z7)]) rfl ?_
  have hl8 : 257 ≤ hq1.2.2.2.1 c5 ∧ hq1.2.2.2.1 c5 ≤ 257 := gJ.rowl (G := gGG) sq1.1 tc5 rfl
  refine gs_ald rfl (by decide) sq1.1 tc5 rfl rfl rfl (by decide) (fun _ => rfl) (by omega) (by omega) (fun z9 ez9 az9 bz9 => ?_)
  refine gy_s 1 (pc' := 19) (L' := [some (.ref x), some (.int (zi a)), some (.int (zi b)), some (.int (zi zq1)), none, none, none]) (S' := [.int ((zi z7) + (zi z9))]) (L2 := [some (.ref x), some (.int (zi a)), some (.int (zi b)), some (.int (zi zq1)), none, none, none]) (S2 := [.int (zi (z7 + z9))]) rfl (by simp only [zi_add, zi_sub, zi_mul, zi_neg, zi_and1, zi_and7, zi_and15, zi_and31, zi_and255]) (by simp only [zi_add, zi_sub, zi_mul, zi_neg, zi_and1, zi_and7, zi_and15, zi_and31, zi_and255]) ?_
  refine gy_any (fun z10 ez10 az10 bz10 => ?_)
  refine gz_s 2 (pc' := 22) (L' := [some (.ref x), some (.int (zi a)), some (.int (zi b)), some (.int (zi zq1)), some (.int (zi z10)), none, none]) (S' := [.ref x]) rfl ?_
  refine gs_gtk rfl (by decide) rfl sq1.1 tx rfl rfl ec5 ?_
  refine gz_s 2 (pc' := 27) (L' := [some (.ref x), some (.int (zi a)), some (.int (zi b)), some (.int (zi zq1)), some (.int (zi z10)), none, none]) (S' := [.int (zi 0), .int (zi a), .ref c5]) rfl ?_
  have hl11 : 257 ≤ hq1.2.2.2.1 c5 ∧ hq1.2.2.2.1 c5 ≤ 257 := gJ.rowl (G := gGG) sq1.1 tc5 rfl
  refine gs_ast rfl (by decide) sq1 tc5 rfl rfl rfl (by decide) (fun _ => rfl) (by omega) (by omega) (fun _ => (by decide : (80999 : Nat) ∈ ([79999, 80999, 81999] : List Nat))) (by omega) (by omega) (fun h12 sh12 eh12 fh12 => ?_)
  have pr13 := gRow.pt fh12 tc5 (by decide) pr3
  have pr14 := gLv.pt fh12 tc5 (by decide) pr4
  have s15 := (fh12 x 8 (fun q => absurd (((tx).symm.trans (congrArg ty q.1)).trans tc5) (by decide))).trans s2
  have s16 := (fh12 x 5 (fun q => absurd (((tx).symm.trans (congrArg ty q.1)).trans tc5) (by decide))).trans ec5
  have pr17 := gEl.set (i := a) (z := 0) uq tc5 (by decide) eh12 (by omega) (by omega)
  refine gz_s 1 (pc' := 29) (L' := [some (.ref x), some (.int (zi a)), some (.int (zi b)), some (.int (zi zq1)), some (.int (zi z10)), none, none]) (S' := [.ref x]) rfl ?_
  refine gs_gtk rfl (by decide) rfl sh12.1 tx rfl rfl s16 ?_
  refine gz_s 2 (pc' := 34) (L' := [some (.ref x), some (.int (zi a)), some (.int (zi b)), some (.int (zi zq1)), some (.int (zi z10)), none, none]) (S' := [.int (zi 0), .int (zi b), .ref c5]) rfl ?_
  have hl18 : 257 ≤ h12.2.2.2.1 c5 ∧ h12.2.2.2.1 c5 ≤ 257 := gJ.rowl (G := gGG) sh12.1 tc5 rfl
  refine gs_ast rfl (by decide) sh12 tc5 rfl rfl rfl (by decide) (fun _ => rfl) (by omega) (by omega) (fun _ => (by decide : (80999 : Nat) ∈ ([79999, 80999, 81999] : List Nat))) (by omega) (by omega) (fun h19 sh19 eh19 fh19 => ?_)
  have pr20 := gRow.pt fh19 tc5 (by decide) pr13
  have pr21 := gLv.pt fh19 tc5 (by decide) pr14
  have s22 := (fh19 x 8 (fun q => absurd (((tx).symm.trans (congrArg ty q.1)).trans tc5) (by decide))).trans s15
  have s23 := (fh19 x 5 (fun q => absurd (((tx).symm.trans (congrArg ty q.1)).trans tc5) (by decide))).trans s16
  have pr24 := gEl.set (i := b) (z := 0) uq tc5 (by decide) eh19 (by omega) (by omega)
  refine gz_s 1 (pc' := 36) (L' := [some (.ref x), some (.int (zi a)), some (.int (zi b)), some (.int (zi zq1)), some (.int (zi z10)), none, none]) (S' := [.ref x]) rfl ?_
  refine gs_gtk rfl (by decide) rfl sh19.1 tx rfl rfl s23 ?_
  refine gz_s 2 (pc' := 42) (L' := [some (.ref x), some (.int (zi a)), some (.int (zi b)), some (.int (zi zq1)), some (.int (zi z10)), none, none]) (S' := [.int (zi z10), .int (zi zq1), .ref c5]) rfl ?_
  have hl25 : 257 ≤ h19.2.2.2.1 c5 ∧ h19.2.2.2.1 c5 ≤ 257 := gJ.rowl (G := gGG) sh19.1 tc5 rfl
  refine gs_ast rfl (by decide) sh19 tc5 rfl rfl rfl (by decide) (fun _ => rfl) (by omega) (by omega) (fun _ => (by decide : (80999 : Nat) ∈ ([79999, 80999, 81999] : List Nat))) (by omega) (by omega) (fun h26 sh26 eh26 fh26 => ?_)
  have pr27 := gRow.pt fh26 tc5 (by decide) pr20
  have pr28 := gLv.pt fh26 tc5 (by decide) pr21
  have s29 := (fh26 x 8 (fun q => absurd (((tx).symm.trans (congrArg ty q.1)).trans tc5) (by decide))).trans s22
  have s30 := (fh26 x 5 (fun q => absurd (((tx).symm.trans (congrArg ty q.1)).trans tc5) (by decide))).trans s23
  have pr31 := gEl.set (i := zq1) (z := z10) uq tc5 (by decide) eh26 (by omega) (by omega)
  refine gz_s 2 (pc' := 46) (L' := [some (.ref x), some (.int (zi a)), some (.int (zi b)), some (.int (zi zq1)), some (.int (zi z10)), some (.int (zi 0)), none]) (S' := []) rfl ?_
  have hlj33 : gLj ty 79 0 v h26 := gLj.of pr28
  have lp32 : ∀ (fu : Nat) (h34 : gH) (i : Int) (B : Int), (258 - i).toNat < fu → gSs rT 1027 ty [79999, 80999, 81999] h h34 → (0 ≤ i ∧ i ≤ 257) → (0 ≤ B ∧ B ≤ 257) → (i ≤ n) → h34.2.2.2.2 x 8 = .int (zi n) → h34.2.2.2.2 x 5 = .ref c5 → gRow ty 85 u h34 → gInc u n 257 → gLj ty 79 B v h34 → gBd u n i B → gz gPP gGG gcn (d + 1) gt124 46 [some (.ref x), some (.int (zi a)), some (.int (zi b)), some (.int (zi zq1)), some (.int (zi z10)), some (.int (zi i)), none] [] h34 (fun q _ => gSs rT 1027 ty [79999, 80999, 81999] h q.2.2 ∧ gfin gt124 q.1 q.2.1 = some none ∧ (gLv ty 79 257 (v + 1) q.2.2)) := by
    intro fu
    induction fu with
    | zero => intro h34 i B hm; exact absurd hm (Nat.not_lt_zero _)
    | succ fu ihlp32 =>
      intro h34 i B lp32m sh34 lp32f0 lp32f1 lp32f2 lp32k0 lp32k1 lp32k2 lp32k3 lp32k4 lp32k5
      refine gz_s 2 (pc' := 49) (L' := [some (.ref x), some (.int (zi a)), some (.int (zi b)), some (.int (zi zq1)), some (.int (zi z10)), some (.int (zi i)), none]) (S' := [.ref x, .int (zi i)]) rfl ?_
      refine gs_gtk rfl (by decide) rfl sh34.1 tx rfl rfl lp32k0 ?_
      by_cases hc35 : (n : Int) ≤ i
      · refine gy_icT (pc' := 111) rfl (by decide) (by decide) (by omega) (by omega) hc35 ?_
        exact gz_end (I := .return_) (len := 1) rfl (Or.inl rfl) ⟨sh34, rfl, (gLj.all lp32k4)⟩
      · refine gy_icF rfl (by decide) (by decide) (by omega) (by omega) hc35 ?_
        refine gz_s 1 (pc' := 56) (L' := [some (.ref x), some (.int (zi a)), some (.int (zi b)), some (.int (zi zq1)), some (.int (zi z10)), some (.int (zi i)), none]) (S' := [.ref x]) rfl ?_
        refine gs_gtr rfl (by decide) rfl sh34.1 tx rfl rfl rfl (fun c36 ec36 tc36 => ?_)
        refine gz_s 1 (pc' := 61) (L' := [some (.ref x), some (.int (zi a)), some (.int (zi b)), some (.int (zi zq1)), some (.int (zi z10)), some (.int (zi i)), none]) (S' := [.int (zi i), .ref c36]) rfl ?_
        have hl37 : 257 ≤ h34.2.2.2.1 c36 ∧ h34.2.2.2.1 c36 ≤ 257 := gJ.rowl (G := gGG) sh34.1 tc36 rfl
        refine gs_ald rfl (by decide) sh34.1 tc36 rfl rfl rfl (by decide) (fun _ => rfl) (by omega) (by omega) (fun z38 ez38 az38 bz38 => ?_)
        have hf39 := gRow.at (i := i) (z := z38) lp32k2 tc36 ez38 (by omega) (by omega) (by omega)
        have hbd := gBd.at lp32k5 (by omega) (by omega) hf39
        refine gz_s 2 (pc' := 65) (L' := [some (.ref x), some (.int (zi a)), some (.int (zi b)), some (.int (zi zq1)), some (.int (zi z10)), some (.int (zi i)), some (.int (zi z38))]) (S' := [.ref x]) rfl ?_
        refine gs_gtr rfl (by decide) rfl sh34.1 tx rfl rfl rfl (fun c40 ec40 tc40 => ?_)
        refine gz_s 1 (pc' := 70) (L' := [some (.ref x), some (.int (zi a)), some (.int (zi b)), some (.int (zi zq1)), some (.int (zi z10)), some (.int (zi i)), some (.int (zi z38))]) (S' := [.int (zi z38), .ref c40]) rfl ?_
        have hl41 : 257 ≤ h34.2.2.2.1 c40 ∧ h34.2.2.2.1 c40 ≤ 257 := gJ.rowl (G := gGG) sh34.1 tc40 rfl
        refine gs_ald rfl (by decide) sh34.1 tc40 rfl rfl rfl (by decide) (fun _ => rfl) (by omega) (by omega) (fun z42 ez42 az42 bz42 => ?_)
        refine gz_s 1 (pc' := 72) (L' := [some (.ref x), some (.int (zi a)), some (.int (zi b)), some (.int (zi zq1)), some (.int (zi z10)), some (.int (zi i)), some (.int (zi z38))]) (S' := [.int (zi a), .int (zi z42)]) rfl ?_
        by_cases hc43 : (z42 : Int) = a
        · refine gy_icT (pc' := 86) rfl (by decide) (by decide) (by omega) (by omega) hc43 ?_
          refine gz_s 1 (pc' := 87) (L' := [some (.ref x), some (.int (zi a)), some (.int (zi b)), some (.int (zi zq1)), some (.int (zi z10)), some (.int (zi i)), some (.int (zi z38))]) (S' := [.ref x]) rfl ?_
          refine gs_gtk rfl (by decide) rfl sh34.1 tx rfl rfl ec40 ?_
          refine gz_s 2 (pc' := 93) (L' := [some (.ref x), some (.int (zi a)), some (.int (zi b)), some (.int (zi zq1)), some (.int (zi z10)), some (.int (zi i)), some (.int (zi z38))]) (S' := [.int (zi zq1), .int (zi z38), .ref c40]) rfl ?_
          have hl44 : 257 ≤ h34.2.2.2.1 c40 ∧ h34.2.2.2.1 c40 ≤ 257 := gJ.rowl (G := gGG) sh34.1 tc40 rfl
          refine gs_ast rfl (by decide) sh34 tc40 rfl rfl rfl (by decide) (fun _ => rfl) (by omega) (by omega) (fun _ => (by decide : (81999 : Nat) ∈ ([79999, 80999, 81999] : List Nat))) (by omega) (by omega) (fun h45 sh45 eh45 fh45 => ?_)
          have pr46 := gRow.pt fh45 tc40 (by decide) lp32k2
          have pr47 := gLj.pt fh45 tc40 (by decide) lp32k4
          have s48 := (fh45 x 8 (fun q => absurd (((tx).symm.trans (congrArg ty q.1)).trans tc40) (by decide))).trans lp32k0
          have s49 := (fh45 x 5 (fun q => absurd (((tx).symm.trans (congrArg ty q.1)).trans tc40) (by decide))).trans lp32k1
          have s50 := (fh45 x 7 (fun q => absurd (((tx).symm.trans (congrArg ty q.1)).trans tc40) (by decide))).trans ec36
          have s51 := (fh45 x 6 (fun q => absurd (((tx).symm.trans (congrArg ty q.1)).trans tc40) (by decide))).trans ec40
          have pr52 := gEl.set (i := z38) (z := zq1) uq tc40 (by decide) eh45 (by omega) (by omega)
          refine gz_s 1 (pc' := 95) (L' := [some (.ref x), some (.int (zi a)), some (.int (zi b)), some (.int (zi zq1)), some (.int (zi z10)), some (.int (zi i)), some (.int (zi z38))]) (S' := [.ref x]) rfl ?_
          refine gs_gtr rfl (by decide) rfl sh45.1 tx rfl rfl rfl (fun c53 ec53 tc53 => ?_)
          refine gz_s 2 (pc' := 101) (L' := [some (.ref x), some (.int (zi a)), some (.int (zi b)), some (.int (zi zq1)), some (.int (zi z10)), some (.int (zi i)), some (.int (zi z38))]) (S' := [.int (zi z38), .ref c53, .int (zi z38), .ref c53]) rfl ?_
          have hl54 : 257 ≤ h45.2.2.2.1 c53 ∧ h45.2.2.2.1 c53 ≤ 257 := gJ.rowl (G := gGG) sh45.1 tc53 rfl
          refine gs_ald rfl (by decide) sh45.1 tc53 rfl rfl rfl (by decide) (fun _ => rfl) (by omega) (by omega) (fun z55 ez55 az55 bz55 => ?_)
          have hel := pr47.2.2 z38 (by omega) (by omega) (by omega) _ _ tc53 ez55 (by omega) (by omega)
          refine gy_s 2 (pc' := 104) (L' := [some (.ref x), some (.int (zi a)), some (.int (zi b)), some (.int (zi zq1)), some (.int (zi z10)), some (.int (zi i)), some (.int (zi z38))]) (S' := [.int ((zi z55) + (zi 1)), .int (zi z38), .ref c53]) (L2 := [some (.ref x), some (.int (zi a)), some (.int (zi b)), some (.int (zi zq1)), some (.int (zi z10)), some (.int (zi i)), some (.int (zi z38))]) (S2 := [.int (zi (z55 + 1)), .int (zi z38), .ref c53]) rfl (by simp only [zi_add, zi_sub, zi_mul, zi_neg, zi_and1, zi_and7, zi_and15, zi_and31, zi_and255]) (by simp only [zi_add, zi_sub, zi_mul, zi_neg, zi_and1, zi_and7, zi_and15, zi_and31, zi_and255]) ?_
          have hl56 : 257 ≤ h45.2.2.2.1 c53 ∧ h45.2.2.2.1 c53 ≤ 257 := gJ.rowl (G := gGG) sh45.1 tc53 rfl
          refine gs_ast rfl (by decide) sh45 tc53 rfl rfl rfl (by decide) (fun _ => rfl) (by omega) (by omega) (fun _ => (by decide : (79999 : Nat) ∈ ([79999, 80999, 81999] : List Nat))) (by omega) (by omega) (fun h57 sh57 eh57 fh57 => ?_)
          have pr58 := gRow.pt fh57 tc53 (by decide) pr46
          have pr59 := gEl.pt fh57 tc53 (by decide) pr52
          have s60 := (fh57 x 8 (fun q => absurd (((tx).symm.trans (congrArg ty q.1)).trans tc53) (by decide))).trans s48
          have s61 := (fh57 x 5 (fun q => absurd (((tx).symm.trans (congrArg ty q.1)).trans tc53) (by decide))).trans s49
          have s62 := (fh57 x 7 (fun q => absurd (((tx).symm.trans (congrArg ty q.1)).trans tc53) (by decide))).trans s50
          have s63 := (fh57 x 6 (fun q => absurd (((tx).symm.trans (congrArg ty q.1)).trans tc53) (by decide))).trans s51
          have s64 := (fh57 x 3 (fun q => absurd (((tx).symm.trans (congrArg ty q.1)).trans tc53) (by decide))).trans ec53
          have pr65 := gEl.set (i := z38) (z := z55 + 1) uq tc53 (by decide) eh57 (by omega) (by omega)
          have hlj66 : gLj ty 79 (z38 + 1) v h57 := gLj.step (z := z55 + 1) uq tc53 (by decide) fh57 eh57 (by omega) (by omega) (by omega) pr47
          have hbd67 : gBd u n (i + 1) (z38 + 1) := gBd.step lp32k3 (by omega) hf39
          refine gy_s 2 (pc' := 46) (L' := [some (.ref x), some (.int (zi a)), some (.int (zi b)), some (.int (zi zq1)), some (.int (zi z10)), some (.int ((zi i) + zi 1)), some (.int (zi z38))]) (S' := []) (L2 := [some (.ref x), some (.int (zi a)), some (.int (zi b)), some (.int (zi zq1)), some (.int (zi z10)), some (.int (zi (i + 1))), some (.int (zi z38))]) (S2 := []) rfl (by simp only [zi_add, zi_sub, zi_mul, zi_neg, zi_and1, zi_and7, zi_and15, zi_and31, zi_and255]) (by simp only [zi_add, zi_sub, zi_mul, zi_neg, zi_and1, zi_and7, zi_and15, zi_and31, zi_and255]) ?_
          exact gz_wk (ihlp32 h57 (i + 1) (z38 + 1) (by omega) sh57 (by omega) (by omega) (by omega) s60 s61 pr58 lp32k3 hlj66 hbd67) (gLw.s (gLw.s (gLw.s (gLw.s (gLw.s (gLw.s (gLw.n gLw.z)))))))
        · refine gy_icF rfl (by decide) (by decide) (by omega) (by omega) hc43 ?_
          refine gz_s 1 (pc' := 76) (L' := [some (.ref x), some (.int (zi a)), some (.int (zi b)), some (.int (zi zq1)), some (.int (zi z10)), some (.int (zi i)), some (.int (zi z38))]) (S' := [.ref x]) rfl ?_
          refine gs_gtk rfl (by decide) rfl sh34.1 tx rfl rfl ec40 ?_
          refine gz_s 1 (pc' := 81) (L' := [some (.ref x), some (.int (zi a)), some (.int (zi b)), some (.int (zi zq1)), some (.int (zi z10)), some (.int (zi i)), some (.int (zi z38))]) (S' := [.int (zi z38), .ref c40]) rfl ?_
          have hl68 : 257 ≤ h34.2.2.2.1 c40 ∧ h34.2.2.2.1 c40 ≤ 257 := gJ.rowl (G := gGG) sh34.1 tc40 rfl
          refine gs_ald rfl (by decide) sh34.1 tc40 rfl rfl rfl (by decide) (fun _ => rfl) (by omega) (by omega) (fun z69 ez69 az69 bz69 => ?_)
          refine gz_s 1 (pc' := 83) (L' := [some (.ref x), some (.int (zi a)), some (.int (zi b)), some (.int (zi zq1)), some (.int (zi z10)), some (.int (zi i)), some (.int (zi z38))]) (S' := [.int (zi b), .int (zi z69)]) rfl ?_
          by_cases hc70 : ¬ (z69 : Int) = b
          · refine gy_icT (pc' := 105) rfl (by decide) (by decide) (by omega) (by omega) hc70 ?_
            have hlj71 : gLj ty 79 (z38 + 1) v h34 := gLj.up (by omega) lp32k4
            have hbd72 : gBd u n (i + 1) (z38 + 1) := gBd.step lp32k3 (by omega) hf39
            refine gy_s 2 (pc' := 46) (L' := [some (.ref x), some (.int (zi a)), some (.int (zi b)), some (.int (zi zq1)), some (.int (zi z10)), some (.int ((zi i) + zi 1)), some (.int (zi z38))]) (S' := []) (L2 := [some (.ref x), some (.int (zi a)), some (.int (zi b)), some (.int (zi zq1)), some (.int (zi z10)), some (.int (zi (i + 1))), some (.int (zi z38))]) (S2 := []) rfl (by simp only [zi_add, zi_sub, zi_mul, zi_neg, zi_and1, zi_and7, zi_and15, zi_and31, zi_and255]) (by simp only [zi_add, zi_sub, zi_mul, zi_neg, zi_and1, zi_and7, zi_and15, zi_and31, zi_and255]) ?_
            exact gz_wk (ihlp32 h34 (i + 1) (z38 + 1) (by omega) sh34 (by omega) (by omega) (by omega) lp32k0 lp32k1 lp32k2 lp32k3 hlj71 hbd72) (gLw.s (gLw.s (gLw.s (gLw.s (gLw.s (gLw.s (gLw.n gLw.z)))))))
          · refine gy_icF rfl (by decide) (by decide) (by omega) (by omega) hc70 ?_
            refine gz_s 1 (pc' := 87) (L' := [some (.ref x), some (.int (zi a)), some (.int (zi b)), some (.int (zi zq1)), some (.int (zi z10)), some (.int (zi i)), some (.int (zi z38))]) (S' := [.ref x]) rfl ?_
            refine gs_gtk rfl (by decide) rfl sh34.1 tx rfl rfl ec40 ?_
            refine gz_s 2 (pc' := 93) (L' := [some (.ref x), some (.int (zi a)), some (.int (zi b)), some (.int (zi zq1)), some (.int (zi z10)), some (.int (zi i)), some (.int (zi z38))]) (S' := [.int (zi zq1), .int (zi z38), .ref c40]) rfl ?_
            have hl73 : 257 ≤ h34.2.2.2.1 c40 ∧ h34.2.2.2.1 c40 ≤ 257 := gJ.rowl (G := gGG) sh34.1 tc40 rfl
            refine gs_ast rfl (by decide) sh34 tc40 rfl rfl rfl (by decide) (fun _ => rfl) (by omega) (by omega) (fun _ => (by decide : (81999 : Nat) ∈ ([79999, 80999, 81999] : List Nat))) (by omega) (by omega) (fun h74 sh74 eh74 fh74 => ?_)
            have pr75 := gRow.pt fh74 tc40 (by decide) lp32k2
            have pr76 := gLj.pt fh74 tc40 (by decide) lp32k4
            have s77 := (fh74 x 8 (fun q => absurd (((tx).symm.trans (congrArg ty q.1)).trans tc40) (by decide))).trans lp32k0
            have s78 := (fh74 x 5 (fun q => absurd (((tx).symm.trans (congrArg ty q.1)).trans tc40) (by decide))).trans lp32k1
            have s79 := (fh74 x 7 (fun q => absurd (((tx).symm.trans (congrArg ty q.1)).trans tc40) (by decide))).trans ec36
            have s80 := (fh74 x 6 (fun q => absurd (((tx).symm.trans (congrArg ty q.1)).trans tc40) (by decide))).trans ec40
            have pr81 := gEl.set (i := z38) (z := zq1) uq tc40 (by decide) eh74 (by omega) (by omega)
            refine gz_s 1 (pc' := 95) (L' := [some (.ref x), some (.int (zi a)), some (.int (zi b)), some (.int (zi zq1)), some (.int (zi z10)), some (.int (zi i)), some (.int (zi z38))]) (S' := [.ref x]) rfl ?_
            refine gs_gtr rfl (by decide) rfl sh74.1 tx rfl rfl rfl (fun c82 ec82 tc82 => ?_)
            refine gz_s 2 (pc' := 101) (L' := [some (.ref x), some (.int (zi a)), some (.int (zi b)), some (.int (zi zq1)), some (.int (zi z10)), some (.int (zi i)), some (.int (zi z38))]) (S' := [.int (zi z38), .ref c82, .int (zi z38), .ref c82]) rfl ?_
            have hl83 : 257 ≤ h74.2.2.2.1 c82 ∧ h74.2.2.2.1 c82 ≤ 257 := gJ.rowl (G := gGG) sh74.1 tc82 rfl
            refine gs_ald rfl (by decide) sh74.1 tc82 rfl rfl rfl (by decide) (fun _ => rfl) (by omega) (by omega) (fun z84 ez84 az84 bz84 => ?_)
            have hel := pr76.2.2 z38 (by omega) (by omega) (by omega) _ _ tc82 ez84 (by omega) (by omega)
            refine gy_s 2 (pc' := 104) (L' := [some (.ref x), some (.int (zi a)), some (.int (zi b)), some (.int (zi zq1)), some (.int (zi z10)), some (.int (zi i)), some (.int (zi z38))]) (S' := [.int ((zi z84) + (zi 1)), .int (zi z38), .ref c82]) (L2 := [some (.ref x), some (.int (zi a)), some (.int (zi b)), some (.int (zi zq1)), some (.int (zi z10)), some (.int (zi i)), some (.int (zi z38))]) (S2 := [.int (zi (z84 + 1)), .int (zi z38), .ref c82]) rfl (by simp only [zi_add, zi_sub, zi_mul, zi_neg, zi_and1, zi_and7, zi_and15, zi_and31, zi_and255]) (by simp only [zi_add, zi_sub, zi_mul, zi_neg, zi_and1, zi_and7, zi_and15, zi_and31, zi_and255]) ?_
            have hl85 : 257 ≤ h74.2.2.2.1 c82 ∧ h74.2.2.2.1 c82 ≤ 257 := gJ.rowl (G := gGG) sh74.1 tc82 rfl
            refine gs_ast rfl (by decide) sh74 tc82 rfl rfl rfl (by decide) (fun _ => rfl) (by omega) (by omega) (fun _ => (by decide : (79999 : Nat) ∈ ([79999, 80999, 81999] : List Nat))) (by omega) (by omega) (fun h86 sh86 eh86 fh86 => ?_)
            have pr87 := gRow.pt fh86 tc82 (by decide) pr75
            have pr88 := gEl.pt fh86 tc82 (by decide) pr81
            have s89 := (fh86 x 8 (fun q => absurd (((tx).symm.trans (congrArg ty q.1)).trans tc82) (by decide))).trans s77
            have s90 := (fh86 x 5 (fun q => absurd (((tx).symm.trans (congrArg ty q.1)).trans tc82) (by decide))).trans s78
            have s91 := (fh86 x 7 (fun q => absurd (((tx).symm.trans (congrArg ty q.1)).trans tc82) (by decide))).trans s79
            have s92 := (fh86 x 6 (fun q => absurd (((tx).symm.trans (congrArg ty q.1)).trans tc82) (by decide))).trans s80
            have s93 := (fh86 x 3 (fun q => absurd (((tx).symm.trans (congrArg ty q.1)).trans tc82) (by decide))).trans ec82
            have pr94 := gEl.set (i := z38) (z := z84 + 1) uq tc82 (by decide) eh86 (by omega) (by omega)
            have hlj95 : gLj ty 79 (z38 + 1) v h86 := gLj.step (z := z84 + 1) uq tc82 (by decide) fh86 eh86 (by omega) (by omega) (by omega) pr76
            have hbd96 : gBd u n (i + 1) (z38 + 1) := gBd.step lp32k3 (by omega) hf39
            refine gy_s 2 (pc' := 46) (L' := [some (.ref x), some (.int (zi a)), some (.int (zi b)), some (.int (zi zq1)), some (.int (zi z10)), some (.int ((zi i) + zi 1)), some (.int (zi z38))]) (S' := []) (L2 := [some (.ref x), some (.int (zi a)), some (.int (zi b)), some (.int (zi zq1)), some (.int (zi z10)), some (.int (zi (i + 1))), some (.int (zi z38))]) (S2 := []) rfl (by simp only [zi_add, zi_sub, zi_mul, zi_neg, zi_and1, zi_and7, zi_and15, zi_and31, zi_and255]) (by simp only [zi_add, zi_sub, zi_mul, zi_neg, zi_and1, zi_and7, zi_and15, zi_and31, zi_and255]) ?_
            exact gz_wk (ihlp32 h86 (i + 1) (z38 + 1) (by omega) sh86 (by omega) (by omega) (by omega) s89 s90 pr87 lp32k3 hlj95 hbd96) (gLw.s (gLw.s (gLw.s (gLw.s (gLw.s (gLw.s (gLw.n gLw.z)))))))
  exact gz_wk (lp32 _ h26 0 0 (Nat.lt_succ_self _) sh26 (by omega) (by omega) (by omega) s29 s30 pr27 hyinc hlj33 (gBd.zero hyinc)) (gLw.s (gLw.s (gLw.s (gLw.s (gLw.s (gLw.s (gLw.n gLw.z)))))))
set_option maxRecDepth 20000 in
set_option maxHeartbeats 4000000 in
theorem cl_Suited1_orderCodes (d : Nat) {ty : Nat → Nat} {h : gH} (hJ : gJ rT 1027 ty h) (x : Nat) (tx : ty x = 92) (n : Int) (en : h.2.2.2.2 x 8 = .int (zi n)) (rn : 0 ≤ n ∧ n ≤ 257) (u f : Nat → Int) (uq : gUq ty) (hyf85 : gRow ty 85 u h) (hyf79 : gRow ty 79 f h) (hyinc : gInc u n 257) : gz gPP gGG gcn (d + 0) gt125 0 (gent [.ref x] 5) [] h (fun q _ => gSs rT 1027 ty [76999, 77999, 78999, 92004] h q.2.2 ∧ ∃ t1 : Int, gfin gt125 q.1 q.2.1 = some none ∧ q.2.2.2.2.2.2 x 4 = .int (zi t1) ∧ 0 ≤ t1 ∧ t1 ≤ 256) := by
  have hS : gSs rT 1027 ty [76999, 77999, 78999, 92004] h h := gSs.rf hJ
  refine gz_s 2 (pc' := 2) (L' := [some (.ref x), none, none, none, none]) (S' := [.int (zi 0), .ref x]) rfl ?_
  refine gs_put rfl (by decide) rfl hS tx rfl rfl rfl rfl (Or.inl rfl) (by decide) (by omega) (by omega) (fun h1 sh1 eh1 fh1 => ?_)
  have pr2 := gRow.pt fh1 tx (by decide) hyf85
  have pr3 := gRow.pt fh1 tx (by decide) hyf79
  have s4 := (fh1 x 8 (fun q => absurd q.2 (by decide))).trans en
  refine gz_s 4 (pc' := 9) (L' := [some (.ref x), some (.int (zi 0)), some (.int (zi 1)), none, none]) (S' := []) rfl ?_
  have lp5 : ∀ (fu : Nat) (h6 : gH) (nx : Int) (ln : Int) (tv : Int), (18 - ln).toNat < fu → gSs rT 1027 ty [76999, 77999, 78999, 92004] h h6 → ((-2147483648) ≤ nx ∧ nx ≤ 2147483647) → (1 ≤ ln ∧ ln ≤ 17) → (0 ≤ tv ∧ tv ≤ 256) → (tv ≤ gF (gcf u f) 0 ln 0) → h6.2.2.2.2 x 8 = .int (zi n) → h6.2.2.2.2 x 4 = .int (zi tv) → gRow ty 85 u h6 → gRow ty 79 f h6 → gInc u n 257 → gz gPP gGG gcn (d + 0) gt125 9 [some (.ref x), some (.int (zi nx)), some (.int (zi ln)), none, none] [] h6 (fun q _ => gSs rT 1027 ty [76999, 77999, 78999, 92004] h q.2.2 ∧ ∃ t1 : Int, gfin gt125 q.1 q.2.1 = some none ∧ q.2.2.2.2.2.2 x 4 = .int (zi t1) ∧ 0 ≤ t1 ∧ t1 ≤ 256) := by
    intro fu
    induction fu with
    | zero => intro h6 nx ln tv hm; exact absurd hm (Nat.not_lt_zero _)
    | succ fu ihlp5 =>
      intro h6 nx ln tv lp5m sh6 lp5f0 lp5f1 lp5f2 lp5f3 lp5k0 lp5k1 lp5k2 lp5k3 lp5k4
      refine gz_s 2 (pc' := 12) (L' := [some (.ref x), some (.int (zi nx)), some (.int (zi ln)), none, none]) (S' := [.int (zi 16), .int (zi ln)]) rfl ?_
      by_cases hc7 : (16 : Int) < ln
      · refine gy_icT (pc' := 117) rfl (by decide) (by decide) (by omega) (by omega) hc7 ?_
        exact gz_end (I := .return_) (len := 1) rfl (Or.inl rfl) ⟨sh6, tv, rfl, lp5k1, (by omega), (by omega)⟩
      · refine gy_icF rfl (by decide) (by decide) (by omega) (by omega) hc7 ?_
        refine gz_s 1 (pc' := 16) (L' := [some (.ref x), some (.int (zi nx)), some (.int (zi ln)), none, none]) (S' := [.ref x]) rfl ?_
        refine gs_gtr rfl (by decide) rfl sh6.1 tx rfl rfl rfl (fun c8 ec8 tc8 => ?_)
        refine gz_s 2 (pc' := 21) (L' := [some (.ref x), some (.int (zi nx)), some (.int (zi ln)), none, none]) (S' := [.int (zi 0), .int (zi ln), .ref c8]) rfl ?_
        have hl9 : 17 ≤ h6.2.2.2.1 c8 ∧ h6.2.2.2.1 c8 ≤ 17 := gJ.rowl (G := gGG) sh6.1 tc8 rfl
        refine gs_ast rfl (by decide) sh6 tc8 rfl rfl rfl (by decide) (fun _ => rfl) (by omega) (by omega) (fun _ => (by decide : (76999 : Nat) ∈ ([76999, 77999, 78999, 92004] : List Nat))) (by omega) (by omega) (fun h10 sh10 eh10 fh10 => ?_)
        have pr11 := gRow.pt fh10 tc8 (by decide) lp5k2
        have pr12 := gRow.pt fh10 tc8 (by decide) lp5k3
        have s13 := (fh10 x 8 (fun q => absurd (((tx).symm.trans (congrArg ty q.1)).trans tc8) (by decide))).trans lp5k0
        have s14 := (fh10 x 4 (fun q => absurd (((tx).symm.trans (congrArg ty q.1)).trans tc8) (by decide))).trans lp5k1
        have s15 := (fh10 x 0 (fun q => absurd (((tx).symm.trans (congrArg ty q.1)).trans tc8) (by decide))).trans ec8
        have pr16 := gEl.set (i := ln) (z := 0) uq tc8 (by decide) eh10 (by omega) (by omega)
        refine gz_s 2 (pc' := 24) (L' := [some (.ref x), some (.int (zi nx)), some (.int (zi ln)), some (.int (zi 0)), none]) (S' := []) rfl ?_
        have lp17 : ∀ (fu : Nat) (h18 : gH) (nx2 : Int) (i : Int) (tv2 : Int), (258 - i).toNat < fu → gSs rT 1027 ty [76999, 77999, 78999, 92004] h h18 → ((-2147483648) ≤ nx2 ∧ nx2 ≤ 2147483647) → (0 ≤ i ∧ i ≤ 257) → (0 ≤ tv2 ∧ tv2 ≤ 256) → (tv2 ≤ gF (gcf u f) 0 ln i) → (i ≤ n) → h18.2.2.2.2 x 8 = .int (zi n) → h18.2.2.2.2 x 0 = .ref c8 → h18.2.2.2.2 x 4 = .int (zi tv2) → gRow ty 85 u h18 → gRow ty 79 f h18 → gInc u n 257 → gEl ty 76 ln 0 i h18 → gz gPP gGG gcn (d + 0) gt125 24 [some (.ref x), some (.int (zi nx2)), some (.int (zi ln)), some (.int (zi i)), none] [] h18 (fun q _ => gSs rT 1027 ty [76999, 77999, 78999, 92004] h q.2.2 ∧ ∃ t1 : Int, gfin gt125 q.1 q.2.1 = some none ∧ q.2.2.2.2.2.2 x 4 = .int (zi t1) ∧ 0 ≤ t1 ∧ t1 ≤ 256) := by
          intro fu
          induction fu with
          | zero => intro h18 nx2 i tv2 hm; exact absurd hm (Nat.not_lt_zero _)
          | succ fu ihlp17 =>
            intro h18 nx2 i tv2 lp17m sh18 lp17f0 lp17f1 lp17f2 lp17f3 lp17f4 lp17k0 lp17k1 lp17k2 lp17k3 lp17k4 lp17k5 lp17k6
            refine gz_s 2 (pc' := 26) (L' := [some (.ref x), some (.int (zi nx2)), some (.int (zi ln)), some (.int (zi i)), none]) (S' := [.ref x, .int (zi i)]) rfl ?_
            refine gs_gtk rfl (by decide) rfl sh18.1 tx rfl rfl lp17k0 ?_
            by_cases hc19 : (n : Int) ≤ i
            · refine gy_icT (pc' := 107) rfl (by decide) (by decide) (by omega) (by omega) hc19 ?_
              have gwr := gF_wr (f := gcf u f) (off := 0) (bits := ln) (s := i)
              refine gy_s 3 (pc' := 110) (L' := [some (.ref x), some (.int (zi nx2)), some (.int (zi ln)), some (.int (zi i)), none]) (S' := [.int ((zi 2) * (zi nx2))]) (L2 := [some (.ref x), some (.int (zi nx2)), some (.int (zi ln)), some (.int (zi i)), none]) (S2 := [.int (zi (2 * nx2))]) rfl (by simp only [zi_add, zi_sub, zi_mul, zi_neg, zi_and1, zi_and7, zi_and15, zi_and31, zi_and255]) (by simp only [zi_add, zi_sub, zi_mul, zi_neg, zi_and1, zi_and7, zi_and15, zi_and31, zi_and255]) ?_
              refine gy_any (fun z20 ez20 az20 bz20 => ?_)
              refine gy_any (fun z21 ez21 az21 bz21 => ?_)
              refine gy_s 3 (pc' := 9) (L' := [some (.ref x), some (.int (zi z21)), some (.int ((zi ln) + zi 1)), some (.int (zi i)), none]) (S' := []) (L2 := [some (.ref x), some (.int (zi z21)), some (.int (zi (ln + 1))), some (.int (zi i)), none]) (S2 := []) rfl (by simp only [zi_add, zi_sub, zi_mul, zi_neg, zi_and1, zi_and7, zi_and15, zi_and31, zi_and255]) (by simp only [zi_add, zi_sub, zi_mul, zi_neg, zi_and1, zi_and7, zi_and15, zi_and31, zi_and255]) ?_
              exact gz_wk (ihlp5 h18 z21 (ln + 1) tv2 (by omega) sh18 (by omega) (by omega) (by omega) (by omega) lp17k0 lp17k2 lp17k3 lp17k4 lp17k5) (gLw.s (gLw.s (gLw.s (gLw.n (gLw.n gLw.z)))))
            · refine gy_icF rfl (by decide) (by decide) (by omega) (by omega) hc19 ?_
              refine gz_s 1 (pc' := 33) (L' := [some (.ref x), some (.int (zi nx2)), some (.int (zi ln)), some (.int (zi i)), none]) (S' := [.ref x]) rfl ?_
              refine gs_gtr rfl (by decide) rfl sh18.1 tx rfl rfl rfl (fun c22 ec22 tc22 => ?_)
              refine gz_s 1 (pc' := 37) (L' := [some (.ref x), some (.int (zi nx2)), some (.int (zi ln)), some (.int (zi i)), none]) (S' := [.int (zi i), .ref c22]) rfl ?_
              have hl23 : 257 ≤ h18.2.2.2.1 c22 ∧ h18.2.2.2.1 c22 ≤ 257 := gJ.rowl (G := gGG) sh18.1 tc22 rfl
              refine gs_ald rfl (by decide) sh18.1 tc22 rfl rfl rfl (by decide) (fun _ => rfl) (by omega) (by omega) (fun z24 ez24 az24 bz24 => ?_)
              have hf25 := gRow.at (i := i) (z := z24) lp17k3 tc22 ez24 (by omega) (by omega) (by omega)
              refine gz_s 3 (pc' := 45) (L' := [some (.ref x), some (.int (zi nx2)), some (.int (zi ln)), some (.int (zi i)), some (.int (zi z24))]) (S' := [.int (zi 256), .int (zi z24)]) rfl ?_
              by_cases hc26 : (256 : Int) ≤ z24
              · refine gy_icT (pc' := 101) rfl (by decide) (by decide) (by omega) (by omega) hc26 ?_
                have gup := gF_up (f := gcf u f) (off := 0) (bits := ln) (s := i) (t := i + 1) (by omega)
                have hel27 : gEl ty 76 ln 0 (i + 1) h18 := gEl.wd lp17k6 (by omega) (by omega)
                refine gy_s 2 (pc' := 24) (L' := [some (.ref x), some (.int (zi nx2)), some (.int (zi ln)), some (.int ((zi i) + zi 1)), some (.int (zi z24))]) (S' := []) (L2 := [some (.ref x), some (.int (zi nx2)), some (.int (zi ln)), some (.int (zi (i + 1))), some (.int (zi z24))]) (S2 := []) rfl (by simp only [zi_add, zi_sub, zi_mul, zi_neg, zi_and1, zi_and7, zi_and15, zi_and31, zi_and255]) (by simp only [zi_add, zi_sub, zi_mul, zi_neg, zi_and1, zi_and7, zi_and15, zi_and31, zi_and255]) ?_
                exact gz_wk (ihlp17 h18 nx2 (i + 1) tv2 (by omega) sh18 (by omega) (by omega) (by omega) (by omega) (by omega) lp17k0 lp17k1 lp17k2 lp17k3 lp17k4 lp17k5 hel27) (gLw.s (gLw.s (gLw.s (gLw.s (gLw.n gLw.z)))))
              · refine gy_icF rfl (by decide) (by decide) (by omega) (by omega) hc26 ?_
                refine gz_s 1 (pc' := 49) (L' := [some (.ref x), some (.int (zi nx2)), some (.int (zi ln)), some (.int (zi i)), some (.int (zi z24))]) (S' := [.ref x]) rfl ?_
                refine gs_gtr rfl (by decide) rfl sh18.1 tx rfl rfl rfl (fun c28 ec28 tc28 => ?_)
                refine gz_s 1 (pc' := 54) (L' := [some (.ref x), some (.int (zi nx2)), some (.int (zi ln)), some (.int (zi i)), some (.int (zi z24))]) (S' := [.int (zi z24), .ref c28]) rfl ?_
                have hl29 : 257 ≤ h18.2.2.2.1 c28 ∧ h18.2.2.2.1 c28 ≤ 257 := gJ.rowl (G := gGG) sh18.1 tc28 rfl
                refine gs_ald rfl (by decide) sh18.1 tc28 rfl rfl rfl (by decide) (fun _ => rfl) (by omega) (by omega) (fun z30 ez30 az30 bz30 => ?_)
                have hf31 := gRow.at (i := z24) (z := z30) lp17k4 tc28 ez30 (by omega) (by omega) (by omega)
                refine gz_s 1 (pc' := 56) (L' := [some (.ref x), some (.int (zi nx2)), some (.int (zi ln)), some (.int (zi i)), some (.int (zi z24))]) (S' := [.int (zi ln), .int (zi z30)]) rfl ?_
                by_cases hc32 : ¬ (z30 : Int) = ln
                · refine gy_icT (pc' := 101) rfl (by decide) (by decide) (by omega) (by omega) hc32 ?_
                  have gup := gF_up (f := gcf u f) (off := 0) (bits := ln) (s := i) (t := i + 1) (by omega)
                  have hel33 : gEl ty 76 ln 0 (i + 1) h18 := gEl.wd lp17k6 (by omega) (by omega)
                  refine gy_s 2 (pc' := 24) (L' := [some (.ref x), some (.int (zi nx2)), some (.int (zi ln)), some (.int ((zi i) + zi 1)), some (.int (zi z24))]) (S' := []) (L2 := [some (.ref x), some (.int (zi nx2)), some (.int (zi ln)), some (.int (zi (i + 1))), some (.int (zi z24))]) (S2 := []) rfl (by simp only [zi_add, zi_sub, zi_mul, zi_neg, zi_and1, zi_and7, zi_and15, zi_and31, zi_and255]) (by simp only [zi_add, zi_sub, zi_mul, zi_neg, zi_and1, zi_and7, zi_and15, zi_and31, zi_and255]) ?_
                  exact gz_wk (ihlp17 h18 nx2 (i + 1) tv2 (by omega) sh18 (by omega) (by omega) (by omega) (by omega) (by omega) lp17k0 lp17k1 lp17k2 lp17k3 lp17k4 lp17k5 hel33) (gLw.s (gLw.s (gLw.s (gLw.s (gLw.n gLw.z)))))
                · refine gy_icF rfl (by decide) (by decide) (by omega) (by omega) hc32 ?_
                  have hin := (lp17k5.1 (i).toNat (by omega)).1
                  have gst := gF_st (f := gcf u f) (off := 0) (bits := ln) (s := i) (z := ln) (by omega) (by omega) (by have h9 := hf25; omega) (gcf_at (by omega) hf25 (by omega) (by have h9 := hf31; omega))
                  rw [if_pos rfl] at gst
                  have gfl := gF_le (f := gcf u f) (off := 0) (bits := ln) (s := i + 1)
                  refine gz_s 1 (pc' := 60) (L' := [some (.ref x), some (.int (zi nx2)), some (.int (zi ln)), some (.int (zi i)), some (.int (zi z24))]) (S' := [.ref x]) rfl ?_
                  refine gs_gtk rfl (by decide) rfl sh18.1 tx rfl rfl lp17k1 ?_
                  refine gz_s 2 (pc' := 65) (L' := [some (.ref x), some (.int (zi nx2)), some (.int (zi ln)), some (.int (zi i)), some (.int (zi z24))]) (S' := [.int (zi ln), .ref c8, .int (zi ln), .ref c8]) rfl ?_
                  have hl34 : 17 ≤ h18.2.2.2.1 c8 ∧ h18.2.2.2.1 c8 ≤ 17 := gJ.rowl (G := gGG) sh18.1 tc8 rfl
                  refine gs_ald rfl (by decide) sh18.1 tc8 rfl rfl rfl (by decide) (fun _ => rfl) (by omega) (by omega) (fun z35 ez35 az35 bz35 => ?_)
                  have he36 := lp17k6 c8 z35 tc8 ez35 (by omega) (by omega)
                  refine gy_s 2 (pc' := 68) (L' := [some (.ref x), some (.int (zi nx2)), some (.int (zi ln)), some (.int (zi i)), some (.int (zi z24))]) (S' := [.int ((zi z35) + (zi 1)), .int (zi ln), .ref c8]) (L2 := [some (.ref x), some (.int (zi nx2)), some (.int (zi ln)), some (.int (zi i)), some (.int (zi z24))]) (S2 := [.int (zi (z35 + 1)), .int (zi ln), .ref c8]) rfl (by simp only [zi_add, zi_sub, zi_mul, zi_neg, zi_and1, zi_and7, zi_and15, zi_and31, zi_and255]) (by simp only [zi_add, zi_sub, zi_mul, zi_neg, zi_and1, zi_and7, zi_and15, zi_and31, zi_and255]) ?_
                  have hl37 : 17 ≤ h18.2.2.2.1 c8 ∧ h18.2.2.2.1 c8 ≤ 17 := gJ.rowl (G := gGG) sh18.1 tc8 rfl
                  refine gs_ast rfl (by decide) sh18 tc8 rfl rfl rfl (by decide) (fun _ => rfl) (by omega) (by omega) (fun _ => (by decide : (76999 : Nat) ∈ ([76999, 77999, 78999, 92004] : List Nat))) (by omega) (by omega) (fun h38 sh38 eh38 fh38 => ?_)
                  have pr39 := gRow.pt fh38 tc8 (by decide) lp17k3
                  have pr40 := gRow.pt fh38 tc8 (by decide) lp17k4
                  have s41 := (fh38 x 8 (fun q => absurd (((tx).symm.trans (congrArg ty q.1)).trans tc8) (by decide))).trans lp17k0
                  have s42 := (fh38 x 0 (fun q => absurd (((tx).symm.trans (congrArg ty q.1)).trans tc8) (by decide))).trans lp17k1
                  have s43 := (fh38 x 4 (fun q => absurd (((tx).symm.trans (congrArg ty q.1)).trans tc8) (by decide))).trans lp17k2
                  have s44 := (fh38 x 7 (fun q => absurd (((tx).symm.trans (congrArg ty q.1)).trans tc8) (by decide))).trans ec22
                  have s45 := (fh38 x 3 (fun q => absurd (((tx).symm.trans (congrArg ty q.1)).trans tc8) (by decide))).trans ec28
                  have pr46 := gEl.set (i := ln) (z := z35 + 1) uq tc8 (by decide) eh38 (by omega) (by omega)
                  refine gz_s 1 (pc' := 70) (L' := [some (.ref x), some (.int (zi nx2)), some (.int (zi ln)), some (.int (zi i)), some (.int (zi z24))]) (S' := [.ref x]) rfl ?_
                  refine gs_gtr rfl (by decide) rfl sh38.1 tx rfl rfl rfl (fun c47 ec47 tc47 => ?_)
                  refine gz_s 1 (pc' := 74) (L' := [some (.ref x), some (.int (zi nx2)), some (.int (zi ln)), some (.int (zi i)), some (.int (zi z24))]) (S' := [.ref x, .ref c47]) rfl ?_
                  refine gs_gtk rfl (by decide) rfl sh38.1 tx rfl rfl s43 ?_
                  refine gz_s 1 (pc' := 79) (L' := [some (.ref x), some (.int (zi nx2)), some (.int (zi ln)), some (.int (zi i)), some (.int (zi z24))]) (S' := [.int (zi z24), .int (zi tv2), .ref c47]) rfl ?_
                  have hl48 : 256 ≤ h38.2.2.2.1 c47 ∧ h38.2.2.2.1 c47 ≤ 256 := gJ.rowl (G := gGG) sh38.1 tc47 rfl
                  refine gs_ast rfl (by decide) sh38 tc47 rfl rfl rfl (by decide) (fun _ => rfl) (by omega) (by omega) (fun _ => (by decide : (77999 : Nat) ∈ ([76999, 77999, 78999, 92004] : List Nat))) (by omega) (by omega) (fun h49 sh49 eh49 fh49 => ?_)
                  have pr50 := gRow.pt fh49 tc47 (by decide) pr39
                  have pr51 := gRow.pt fh49 tc47 (by decide) pr40
                  have pr52 := gEl.pt fh49 tc47 (by decide) pr46
                  have s53 := (fh49 x 8 (fun q => absurd (((tx).symm.trans (congrArg ty q.1)).trans tc47) (by decide))).trans s41
                  have s54 := (fh49 x 0 (fun q => absurd (((tx).symm.trans (congrArg ty q.1)).trans tc47) (by decide))).trans s42
                  have s55 := (fh49 x 4 (fun q => absurd (((tx).symm.trans (congrArg ty q.1)).trans tc47) (by decide))).trans s43
                  have s56 := (fh49 x 7 (fun q => absurd (((tx).symm.trans (congrArg ty q.1)).trans tc47) (by decide))).trans s44
                  have s57 := (fh49 x 3 (fun q => absurd (((tx).symm.trans (congrArg ty q.1)).trans tc47) (by decide))).trans s45
                  have s58 := (fh49 x 1 (fun q => absurd (((tx).symm.trans (congrArg ty q.1)).trans tc47) (by decide))).trans ec47
                  have pr59 := gEl.set (i := tv2) (z := z24) uq tc47 (by decide) eh49 (by omega) (by omega)
                  refine gz_s 2 (pc' := 82) (L' := [some (.ref x), some (.int (zi nx2)), some (.int (zi ln)), some (.int (zi i)), some (.int (zi z24))]) (S' := [.ref x, .ref x]) rfl ?_
                  refine gs_gtk rfl (by decide) rfl sh49.1 tx rfl rfl s55 ?_
                  refine gy_s 2 (pc' := 87) (L' := [some (.ref x), some (.int (zi nx2)), some (.int (zi ln)), some (.int (zi i)), some (.int (zi z24))]) (S' := [.int ((zi tv2) + (zi 1)), .ref x]) (L2 := [some (.ref x), some (.int (zi nx2)), some (.int (zi ln)), some (.int (zi i)), some (.int (zi z24))]) (S2 := [.int (zi (tv2 + 1)), .ref x]) rfl (by simp only [zi_add, zi_sub, zi_mul, zi_neg, zi_and1, zi_and7, zi_and15, zi_and31, zi_and255]) (by simp only [zi_add, zi_sub, zi_mul, zi_neg, zi_and1, zi_and7, zi_and15, zi_and31, zi_and255]) ?_
                  refine gs_put rfl (by decide) rfl sh49 tx rfl rfl rfl rfl (Or.inl rfl) (by decide) (by omega) (by omega) (fun h60 sh60 eh60 fh60 => ?_)
                  have pr61 := gRow.pt fh60 tx (by decide) pr50
                  have pr62 := gRow.pt fh60 tx (by decide) pr51
                  have pr63 := gEl.pt fh60 tx (by decide) pr52
                  have pr64 := gEl.pt fh60 tx (by decide) pr59
                  have s65 := (fh60 x 8 (fun q => absurd q.2 (by decide))).trans s53
                  have s66 := (fh60 x 0 (fun q => absurd q.2 (by decide))).trans s54
                  have s67 := (fh60 x 7 (fun q => absurd q.2 (by decide))).trans s56
                  have s68 := (fh60 x 3 (fun q => absurd q.2 (by decide))).trans s57
                  have s69 := (fh60 x 1 (fun q => absurd q.2 (by decide))).trans s58
                  refine gz_s 1 (pc' := 91) (L' := [some (.ref x), some (.int (zi nx2)), some (.int (zi ln)), some (.int (zi i)), some (.int (zi z24))]) (S' := [.ref x]) rfl ?_
                  refine gs_gtr rfl (by decide) rfl sh60.1 tx rfl rfl rfl (fun c70 ec70 tc70 => ?_)
                  refine gz_s 2 (pc' := 97) (L' := [some (.ref x), some (.int (zi nx2)), some (.int (zi ln)), some (.int (zi i)), some (.int (zi z24))]) (S' := [.int (zi nx2), .int (zi z24), .ref c70]) rfl ?_
                  have hl71 : 257 ≤ h60.2.2.2.1 c70 ∧ h60.2.2.2.1 c70 ≤ 257 := gJ.rowl (G := gGG) sh60.1 tc70 rfl
                  refine gs_ast rfl (by decide) sh60 tc70 rfl rfl rfl (by decide) (fun _ => rfl) (by omega) (by omega) (fun _ => (by decide : (78999 : Nat) ∈ ([76999, 77999, 78999, 92004] : List Nat))) (by omega) (by omega) (fun h72 sh72 eh72 fh72 => ?_)
                  have pr73 := gRow.pt fh72 tc70 (by decide) pr61
                  have pr74 := gRow.pt fh72 tc70 (by decide) pr62
                  have pr75 := gEl.pt fh72 tc70 (by decide) pr63
                  have pr76 := gEl.pt fh72 tc70 (by decide) pr64
                  have s77 := (fh72 x 8 (fun q => absurd (((tx).symm.trans (congrArg ty q.1)).trans tc70) (by decide))).trans s65
                  have s78 := (fh72 x 0 (fun q => absurd (((tx).symm.trans (congrArg ty q.1)).trans tc70) (by decide))).trans s66
                  have s79 := (fh72 x 7 (fun q => absurd (((tx).symm.trans (congrArg ty q.1)).trans tc70) (by decide))).trans s67
                  have s80 := (fh72 x 3 (fun q => absurd (((tx).symm.trans (congrArg ty q.1)).trans tc70) (by decide))).trans s68
                  have s81 := (fh72 x 1 (fun q => absurd (((tx).symm.trans (congrArg ty q.1)).trans tc70) (by decide))).trans s69
                  have s82 := (fh72 x 4 (fun q => absurd (((tx).symm.trans (congrArg ty q.1)).trans tc70) (by decide))).trans eh60
                  have s83 := (fh72 x 2 (fun q => absurd (((tx).symm.trans (congrArg ty q.1)).trans tc70) (by decide))).trans ec70
                  have pr84 := gEl.set (i := z24) (z := nx2) uq tc70 (by decide) eh72 (by omega) (by omega)
                  refine gy_s 1 (pc' := 101) (L' := [some (.ref x), some (.int ((zi nx2) + zi 1)), some (.int (zi ln)), some (.int (zi i)), some (.int (zi z24))]) (S' := []) (L2 := [some (.ref x), some (.int (zi (nx2 + 1))), some (.int (zi ln)), some (.int (zi i)), some (.int (zi z24))]) (S2 := []) rfl (by simp only [zi_add, zi_sub, zi_mul, zi_neg, zi_and1, zi_and7, zi_and15, zi_and31, zi_and255]) (by simp only [zi_add, zi_sub, zi_mul, zi_neg, zi_and1, zi_and7, zi_and15, zi_and31, zi_and255]) ?_
                  refine gy_loc (i := 1) (x := zi (nx2 + 1)) rfl (fun z85 ez85 az85 bz85 => ?_)
                  show gz gPP gGG gcn _ _ 101 [some (.ref x), some (.int (zi z85)), some (.int (zi ln)), some (.int (zi i)), some (.int (zi z24))] [] h72 _
                  have gup := gF_up (f := gcf u f) (off := 0) (bits := ln) (s := i) (t := i + 1) (by omega)
                  have hel86 : gEl ty 76 ln 0 (i + 1) h72 := gEl.wd pr75 (by omega) (by omega)
                  refine gy_s 2 (pc' := 24) (L' := [some (.ref x), some (.int (zi z85)), some (.int (zi ln)), some (.int ((zi i) + zi 1)), some (.int (zi z24))]) (S' := []) (L2 := [some (.ref x), some (.int (zi z85)), some (.int (zi ln)), some (.int (zi (i + 1))), some (.int (zi z24))]) (S2 := []) rfl (by simp only [zi_add, zi_sub, zi_mul, zi_neg, zi_and1, zi_and7, zi_and15, zi_and31, zi_and255]) (by simp only [zi_add, zi_sub, zi_mul, zi_neg, zi_and1, zi_and7, zi_and15, zi_and31, zi_and255]) ?_
                  exact gz_wk (ihlp17 h72 z85 (i + 1) (tv2 + 1) (by omega) sh72 (by omega) (by omega) (by omega) (by omega) (by omega) s77 s78 s82 pr73 pr74 lp17k5 hel86) (gLw.s (gLw.s (gLw.s (gLw.s (gLw.n gLw.z)))))
        exact gz_wk (lp17 _ h10 nx 0 tv (Nat.lt_succ_self _) sh10 (by omega) (by omega) (by omega) (by omega) (by omega) s13 s15 s14 pr11 pr12 lp5k4 pr16) (gLw.s (gLw.s (gLw.s (gLw.s (gLw.n gLw.z)))))
  have gnn := gF_nn (f := gcf u f) (off := 0) (bits := 1) (s := 0)
  exact gz_wk (lp5 _ h1 0 1 0 (Nat.lt_succ_self _) sh1 (by omega) (by omega) (by omega) (by omega) s4 eh1 pr2 pr3 hyinc) (gLw.s (gLw.s (gLw.s (gLw.n (gLw.n gLw.z)))))
set_option maxRecDepth 20000 in
set_option maxHeartbeats 4000000 in
theorem cl_Suited1_suit (d : Nat) {ty : Nat → Nat} {h : gH} (hJ : gJ rT 1027 ty h) (x : Nat) (tx : ty x = 92) (uq : gUq ty) : gz gPP gGG gcn (d + 2) gt122 0 (gent [.ref x] 3) [] h (fun q _ => gSs rT 1027 ty [76999, 77999, 78999, 79999, 80999, 81999, 85999, 92004, 92008] h q.2.2 ∧ ∃ t1 : Int, gfin gt122 q.1 q.2.1 = some none ∧ q.2.2.2.2.2.2 x 4 = .int (zi t1) ∧ 0 ≤ t1 ∧ t1 ≤ 256) := by
  have hS : gSs rT 1027 ty [76999, 77999, 78999, 79999, 80999, 81999, 85999, 92004, 92008] h h := gSs.rf hJ
  refine gz_s 2 (pc' := 2) (L' := [some (.ref x), none, none]) (S' := [.int (zi 0), .ref x]) rfl ?_
  refine gs_put rfl (by decide) rfl hS tx rfl rfl rfl rfl (Or.inl rfl) (by decide) (by omega) (by omega) (fun h1 sh1 eh1 fh1 => ?_)
  refine gz_s 2 (pc' := 7) (L' := [some (.ref x), some (.int (zi 0)), none]) (S' := []) rfl ?_
  obtain ⟨c3, ec3, tc3⟩ := gJ.ref (k := 7) (G := gGG) sh1.1 tx rfl rfl rfl
  have hus4 : gUs ty 85 0 0 h1 := ⟨_, gRow.mk uq tc3 (by decide) (fun _ => rfl), gInc.zero⟩
  have lp2 : ∀ (fu : Nat) (h5 : gH) (sy : Int) (un : Int), (258 - sy).toNat < fu → gSs rT 1027 ty [76999, 77999, 78999, 79999, 80999, 81999, 85999, 92004, 92008] h h5 → (0 ≤ sy ∧ sy ≤ 257) → (0 ≤ un ∧ un ≤ 257) → (un ≤ sy) → h5.2.2.2.2 x 8 = .int (zi un) → gLv ty 79 sy 0 h5 → gUs ty 85 un sy h5 → gz gPP gGG gcn (d + 2) gt122 7 [some (.ref x), some (.int (zi sy)), none] [] h5 (fun q _ => gSs rT 1027 ty [76999, 77999, 78999, 79999, 80999, 81999, 85999, 92004, 92008] h q.2.2 ∧ ∃ t1 : Int, gfin gt122 q.1 q.2.1 = some none ∧ q.2.2.2.2.2.2 x 4 = .int (zi t1) ∧ 0 ≤ t1 ∧ t1 ≤ 256) := by
    intro fu
    induction fu with
    | zero => intro h5 sy un hm; exact absurd hm (Nat.not_lt_zero _)
    | succ fu ihlp2 =>
      intro h5 sy un lp2m sh5 lp2f0 lp2f1 lp2f2 lp2k0 lp2k1 lp2k2
      refine gz_s 2 (pc' := 11) (L' := [some (.ref x), some (.int (zi sy)), none]) (S' := [.int (zi 256), .int (zi sy)]) rfl ?_
      by_cases hc6 : (256 : Int) < sy
      · refine gy_icT (pc' := 63) rfl (by decide) (by decide) (by omega) (by omega) hc6 ?_
        have hlv7 : gLv ty 79 257 (1 - 1) h5 := by
          have e9 := lp2k1
          rw [(by omega : sy = 257)] at e9
          exact e9
        obtain ⟨u9, ru9, iu9⟩ := lp2k2
        have inc9 : gInc u9 un 257 := iu9.wd (by omega)
        refine gz_s 2 (pc' := 65) (L' := [some (.ref x), some (.int (zi 1)), none]) (S' := []) rfl ?_
        have lp8 : ∀ (fu : Nat) (h9 : gH) (jn : Int), (259 - jn).toNat < fu → gSs rT 1027 ty [76999, 77999, 78999, 79999, 80999, 81999, 85999, 92004, 92008] h h9 → (1 ≤ jn ∧ jn ≤ 258) → h9.2.2.2.2 x 8 = .int (zi un) → gRow ty 85 u9 h9 → gInc u9 un 257 → gLv ty 79 257 (jn - 1) h9 → gz gPP gGG gcn (d + 2) gt122 65 [some (.ref x), some (.int (zi jn)), none] [] h9 (fun q _ => gSs rT 1027 ty [76999, 77999, 78999, 79999, 80999, 81999, 85999, 92004, 92008] h q.2.2 ∧ ∃ t1 : Int, gfin gt122 q.1 q.2.1 = some none ∧ q.2.2.2.2.2.2 x 4 = .int (zi t1) ∧ 0 ≤ t1 ∧ t1 ≤ 256) := by
          intro fu
          induction fu with
          | zero => intro h9 jn hm; exact absurd hm (Nat.not_lt_zero _)
          | succ fu ihlp8 =>
            intro h9 jn lp8m sh9 lp8f0 lp8k0 lp8k1 lp8k2 lp8k3
            refine gz_s 2 (pc' := 67) (L' := [some (.ref x), some (.int (zi jn)), none]) (S' := [.ref x, .int (zi jn)]) rfl ?_
            refine gs_gtk rfl (by decide) rfl sh9.1 tx rfl rfl lp8k0 ?_
            by_cases hc10 : (un : Int) ≤ jn
            · refine gy_icT (pc' := 95) rfl (by decide) (by decide) (by omega) (by omega) hc10 ?_
              obtain ⟨c11, ec11, tc11⟩ := gJ.ref (k := 3) (G := gGG) sh9.1 tx rfl rfl rfl
              have rl9 := gRow.mk (h := h9) uq tc11 (by decide) (fun _ => rfl)
              refine gz_s 1 (pc' := 96) (L' := [some (.ref x), some (.int (zi jn)), none]) (S' := [.ref x]) rfl ?_
              refine gz_call rfl (by decide) rfl (by decide) (by decide) (gcal_of rfl rfl rfl (Nat.le_of_ble_eq_true rfl) (gJ.recv (G := gGG) sh9.1 tx rfl rfl)) (cl_Suited1_orderCodes _ sh9.1 x tx un lp8k0 (by omega) u9 (fun i => if i < 514 then gvI (h9.2.2.2.2 c11 i) else 0) uq lp8k1 rl9 lp8k2) (fun q12 _ wq12 => ?_)
              obtain ⟨pq12, oq12, hq12⟩ := q12
              obtain ⟨xq12, fq12_0, gq12, efq12_0, afq12_0, bfq12_0⟩ := wq12
              refine ⟨_, gq12, ?_⟩
              show gz gPP gGG gcn _ _ 99 [some (.ref x), some (.int (zi jn)), none] [] hq12 _
              have sq12 : gSs rT 1027 ty [76999, 77999, 78999, 79999, 80999, 81999, 85999, 92004, 92008] h hq12 := gSs.tr sh9 xq12 (by decide)
              have s13 := (xq12.2.2.2.2.2 x 8 (by rw [tx]; decide)).trans lp8k0
              have s14 := (xq12.2.2.2.2.2 x 3 (by rw [tx]; decide)).trans ec11
              have pr15 := gRow.fr xq12.2 (by decide) lp8k1
              have pr16 := gLv.fr xq12.2 (by decide) lp8k3
              have pr17 := gRow.fr xq12.2 (by decide) rl9
              exact gz_end (I := .return_) (len := 1) rfl (Or.inl rfl) ⟨sq12, fq12_0, rfl, efq12_0, (by omega), (by omega)⟩
            · refine gy_icF rfl (by decide) (by decide) (by omega) (by omega) hc10 ?_
              refine gz_s 2 (pc' := 75) (L' := [some (.ref x), some (.int (zi jn)), none]) (S' := [.int (zi (-1)), .ref x]) rfl ?_
              refine gz_call rfl (by decide) rfl (by decide) (by decide) (gcal_of rfl rfl rfl (Nat.le_of_ble_eq_true rfl) (gJ.recv (G := gGG) sh9.1 tx rfl rfl)) (cl_Suited1_leastGroup _ sh9.1 x tx (-1) (by omega) un lp8k0 (by omega) uq) (fun q18 _ wq18 => ?_)
              obtain ⟨pq18, oq18, hq18⟩ := q18
              obtain ⟨xq18, zq18, gq18, aq18, bq18⟩ := wq18
              refine ⟨_, gq18, ?_⟩
              show gz gPP gGG gcn _ _ 78 [some (.ref x), some (.int (zi jn)), none] [.int (zi zq18)] hq18 _
              have sq18 : gSs rT 1027 ty [76999, 77999, 78999, 79999, 80999, 81999, 85999, 92004, 92008] h hq18 := gSs.tr sh9 xq18 (by decide)
              have s19 := (xq18.2.2.2.2.2 x 8 (by rw [tx]; decide)).trans lp8k0
              have pr20 := gRow.fr xq18.2 (by decide) lp8k1
              have pr21 := gLv.fr xq18.2 (by decide) lp8k3
              refine gz_s 5 (pc' := 83) (L' := [some (.ref x), some (.int (zi jn)), some (.int (zi zq18))]) (S' := [.int (zi zq18), .ref x, .int (zi zq18), .ref x]) rfl ?_
              refine gz_call rfl (by decide) rfl (by decide) (by decide) (gcal_of rfl rfl rfl (Nat.le_of_ble_eq_true rfl) (gJ.recv (G := gGG) sq18.1 tx rfl rfl)) (cl_Suited1_leastGroup _ sq18.1 x tx zq18 (by omega) un s19 (by omega) uq) (fun q22 _ wq22 => ?_)
              obtain ⟨pq22, oq22, hq22⟩ := q22
              obtain ⟨xq22, zq22, gq22, aq22, bq22⟩ := wq22
              refine ⟨_, gq22, ?_⟩
              show gz gPP gGG gcn _ _ 86 [some (.ref x), some (.int (zi jn)), some (.int (zi zq18))] [.int (zi zq22), .int (zi zq18), .ref x] hq22 _
              have sq22 : gSs rT 1027 ty [76999, 77999, 78999, 79999, 80999, 81999, 85999, 92004, 92008] h hq22 := gSs.tr sq18 xq22 (by decide)
              have s23 := (xq22.2.2.2.2.2 x 8 (by rw [tx]; decide)).trans s19
              have pr24 := gRow.fr xq22.2 (by decide) pr20
              have pr25 := gLv.fr xq22.2 (by decide) pr21
              refine gz_call rfl (by decide) rfl (by decide) (by decide) (gcal_of rfl rfl rfl (Nat.le_of_ble_eq_true rfl) (gJ.recv (G := gGG) sq22.1 tx rfl rfl)) (cl_Suited1_joinGroups _ sq22.1 x tx zq18 (by omega) zq22 (by omega) un s23 (by omega) u9 (jn - 1) (by omega) uq pr24 lp8k2 pr25) (fun q26 _ wq26 => ?_)
              obtain ⟨pq26, oq26, hq26⟩ := q26
              obtain ⟨xq26, gq26, yq26_0⟩ := wq26
              refine ⟨_, gq26, ?_⟩
              show gz gPP gGG gcn _ _ 89 [some (.ref x), some (.int (zi jn)), some (.int (zi zq18))] [] hq26 _
              have sq26 : gSs rT 1027 ty [76999, 77999, 78999, 79999, 80999, 81999, 85999, 92004, 92008] h hq26 := gSs.tr sq22 xq26 (by decide)
              have s27 := (xq26.2.2.2.2.2 x 8 (by rw [tx]; decide)).trans s23
              have pr28 := gRow.fr xq26.2 (by decide) pr24
              have hlv29 : gLv ty 79 257 (jn + 1 - 1) hq26 := by
                have e9 := yq26_0
                rw [(by omega : jn - 1 + 1 = jn + 1 - 1)] at e9
                exact e9
              refine gy_s 2 (pc' := 65) (L' := [some (.ref x), some (.int ((zi jn) + zi 1)), some (.int (zi zq18))]) (S' := []) (L2 := [some (.ref x), some (.int (zi (jn + 1))), some (.int (zi zq18))]) (S2 := []) rfl (by simp only [zi_add, zi_sub, zi_mul, zi_neg, zi_and1, zi_and7, zi_and15, zi_and31, zi_and255]) (by simp only [zi_add, zi_sub, zi_mul, zi_neg, zi_and1, zi_and7, zi_and15, zi_and31, zi_and255]) ?_
              exact gz_wk (ihlp8 hq26 (jn + 1) (by omega) sq26 (by omega) s27 pr28 lp8k2 hlv29) (gLw.s (gLw.s (gLw.n gLw.z)))
        exact gz_wk (lp8 _ h5 1 (Nat.lt_succ_self _) sh5 (by omega) lp2k0 ru9 inc9 hlv7) (gLw.s (gLw.s (gLw.n gLw.z)))
      · refine gy_icF rfl (by decide) (by decide) (by omega) (by omega) hc6 ?_
        refine gz_s 1 (pc' := 15) (L' := [some (.ref x), some (.int (zi sy)), none]) (S' := [.ref x]) rfl ?_
        refine gs_gtr rfl (by decide) rfl sh5.1 tx rfl rfl rfl (fun c30 ec30 tc30 => ?_)
        refine gz_s 2 (pc' := 20) (L' := [some (.ref x), some (.int (zi sy)), none]) (S' := [.int (zi 0), .int (zi sy), .ref c30]) rfl ?_
        have hl31 : 257 ≤ h5.2.2.2.1 c30 ∧ h5.2.2.2.1 c30 ≤ 257 := gJ.rowl (G := gGG) sh5.1 tc30 rfl
        refine gs_ast rfl (by decide) sh5 tc30 rfl rfl rfl (by decide) (fun _ => rfl) (by omega) (by omega) (fun _ => (by decide : (79999 : Nat) ∈ ([76999, 77999, 78999, 79999, 80999, 81999, 85999, 92004, 92008] : List Nat))) (by omega) (by omega) (fun h32 sh32 eh32 fh32 => ?_)
        have pr33 := gUs.pt fh32 tc30 (by decide) lp2k2
        have s34 := (fh32 x 8 (fun q => absurd (((tx).symm.trans (congrArg ty q.1)).trans tc30) (by decide))).trans lp2k0
        have s35 := (fh32 x 3 (fun q => absurd (((tx).symm.trans (congrArg ty q.1)).trans tc30) (by decide))).trans ec30
        have pr36 := gEl.set (i := sy) (z := 0) uq tc30 (by decide) eh32 (by omega) (by omega)
        have hlv37 : gLv ty 79 (sy + 1) 0 h32 := gLv.step (z := 0) uq tc30 (by decide) fh32 eh32 (by omega) (by omega) lp2k1
        refine gz_s 1 (pc' := 22) (L' := [some (.ref x), some (.int (zi sy)), none]) (S' := [.ref x]) rfl ?_
        refine gs_gtr rfl (by decide) rfl sh32.1 tx rfl rfl rfl (fun c38 ec38 tc38 => ?_)
        refine gz_s 2 (pc' := 27) (L' := [some (.ref x), some (.int (zi sy)), none]) (S' := [.int (zi sy), .int (zi sy), .ref c38]) rfl ?_
        have hl39 : 257 ≤ h32.2.2.2.1 c38 ∧ h32.2.2.2.1 c38 ≤ 257 := gJ.rowl (G := gGG) sh32.1 tc38 rfl
        refine gs_ast rfl (by decide) sh32 tc38 rfl rfl rfl (by decide) (fun _ => rfl) (by omega) (by omega) (fun _ => (by decide : (81999 : Nat) ∈ ([76999, 77999, 78999, 79999, 80999, 81999, 85999, 92004, 92008] : List Nat))) (by omega) (by omega) (fun h40 sh40 eh40 fh40 => ?_)
        have pr41 := gUs.pt fh40 tc38 (by decide) pr33
        have pr42 := gEl.pt fh40 tc38 (by decide) pr36
        have pr43 := gLv.pt fh40 tc38 (by decide) hlv37
        have s44 := (fh40 x 8 (fun q => absurd (((tx).symm.trans (congrArg ty q.1)).trans tc38) (by decide))).trans s34
        have s45 := (fh40 x 3 (fun q => absurd (((tx).symm.trans (congrArg ty q.1)).trans tc38) (by decide))).trans s35
        have s46 := (fh40 x 6 (fun q => absurd (((tx).symm.trans (congrArg ty q.1)).trans tc38) (by decide))).trans ec38
        have pr47 := gEl.set (i := sy) (z := sy) uq tc38 (by decide) eh40 (by omega) (by omega)
        refine gz_s 1 (pc' := 29) (L' := [some (.ref x), some (.int (zi sy)), none]) (S' := [.ref x]) rfl ?_
        refine gs_gtr rfl (by decide) rfl sh40.1 tx rfl rfl rfl (fun c48 ec48 tc48 => ?_)
        refine gz_s 1 (pc' := 33) (L' := [some (.ref x), some (.int (zi sy)), none]) (S' := [.int (zi sy), .ref c48]) rfl ?_
        have hl49 : 257 ≤ h40.2.2.2.1 c48 ∧ h40.2.2.2.1 c48 ≤ 257 := gJ.rowl (G := gGG) sh40.1 tc48 rfl
        refine gs_ald rfl (by decide) sh40.1 tc48 rfl rfl rfl (by decide) (fun _ => rfl) (by omega) (by omega) (fun z50 ez50 az50 bz50 => ?_)
        by_cases hc51 : (z50 : Int) ≤ 0
        · refine gy_ifT (pc' := 57) rfl (by decide) (by decide) (by omega) hc51 ?_
          have hus52 : gUs ty 85 un (sy + 1) h40 := by
            obtain ⟨u8, a8, b8⟩ := pr41
            exact ⟨u8, a8, b8.wd (by omega)⟩
          refine gy_s 2 (pc' := 7) (L' := [some (.ref x), some (.int ((zi sy) + zi 1)), none]) (S' := []) (L2 := [some (.ref x), some (.int (zi (sy + 1))), none]) (S2 := []) rfl (by simp only [zi_add, zi_sub, zi_mul, zi_neg, zi_and1, zi_and7, zi_and15, zi_and31, zi_and255]) (by simp only [zi_add, zi_sub, zi_mul, zi_neg, zi_and1, zi_and7, zi_and15, zi_and31, zi_and255]) ?_
          exact gz_wk (ihlp2 h40 (sy + 1) un (by omega) sh40 (by omega) (by omega) (by omega) s44 pr43 hus52) (gLw.s (gLw.s (gLw.n gLw.z)))
        · refine gy_ifF rfl (by decide) (by decide) (by omega) hc51 ?_
          refine gz_s 1 (pc' := 38) (L' := [some (.ref x), some (.int (zi sy)), none]) (S' := [.ref x]) rfl ?_
          refine gs_gtr rfl (by decide) rfl sh40.1 tx rfl rfl rfl (fun c53 ec53 tc53 => ?_)
          have ee54 : c3 = c53 := uq c3 c53 (tc3.trans tc53.symm) (by rw [tc3]; decide) (by rw [tc3]; decide)
          subst ee54
          refine gz_s 1 (pc' := 42) (L' := [some (.ref x), some (.int (zi sy)), none]) (S' := [.ref x, .ref c3]) rfl ?_
          refine gs_gtk rfl (by decide) rfl sh40.1 tx rfl rfl s44 ?_
          refine gz_s 1 (pc' := 46) (L' := [some (.ref x), some (.int (zi sy)), none]) (S' := [.int (zi sy), .int (zi un), .ref c3]) rfl ?_
          obtain ⟨u9, ru9, iu9⟩ := pr41
          have hl55 : 257 ≤ h40.2.2.2.1 c3 ∧ h40.2.2.2.1 c3 ≤ 257 := gJ.rowl (G := gGG) sh40.1 tc3 rfl
          refine gs_ast rfl (by decide) sh40 tc3 rfl rfl rfl (by decide) (fun _ => rfl) (by omega) (by omega) (fun _ => (by decide : (85999 : Nat) ∈ ([76999, 77999, 78999, 79999, 80999, 81999, 85999, 92004, 92008] : List Nat))) (by omega) (by omega) (fun h56 sh56 eh56 fh56 => ?_)
          have pr57 := gEl.pt fh56 tc3 (by decide) pr42
          have pr58 := gLv.pt fh56 tc3 (by decide) pr43
          have pr59 := gEl.pt fh56 tc3 (by decide) pr47
          have pr60 := gRow.put (i := un) (z := sy) uq tc3 (by decide) fh56 eh56 (by omega) (by omega) ru9
          have s61 := (fh56 x 8 (fun q => absurd (((tx).symm.trans (congrArg ty q.1)).trans tc3) (by decide))).trans s44
          have s62 := (fh56 x 3 (fun q => absurd (((tx).symm.trans (congrArg ty q.1)).trans tc3) (by decide))).trans s45
          have s63 := (fh56 x 6 (fun q => absurd (((tx).symm.trans (congrArg ty q.1)).trans tc3) (by decide))).trans s46
          have s64 := (fh56 x 5 (fun q => absurd (((tx).symm.trans (congrArg ty q.1)).trans tc3) (by decide))).trans ec48
          have s65 := (fh56 x 7 (fun q => absurd (((tx).symm.trans (congrArg ty q.1)).trans tc3) (by decide))).trans ec53
          have pr66 := gEl.set (i := un) (z := sy) uq tc3 (by decide) eh56 (by omega) (by omega)
          have hus67 : gUs ty 85 (un + 1) (sy + 1) h56 := ⟨_, pr60, iu9.put (by omega) (by omega)⟩
          refine gz_s 2 (pc' := 49) (L' := [some (.ref x), some (.int (zi sy)), none]) (S' := [.ref x, .ref x]) rfl ?_
          refine gs_gtk rfl (by decide) rfl sh56.1 tx rfl rfl s61 ?_
          refine gy_s 2 (pc' := 54) (L' := [some (.ref x), some (.int (zi sy)), none]) (S' := [.int ((zi un) + (zi 1)), .ref x]) (L2 := [some (.ref x), some (.int (zi sy)), none]) (S2 := [.int (zi (un + 1)), .ref x]) rfl (by simp only [zi_add, zi_sub, zi_mul, zi_neg, zi_and1, zi_and7, zi_and15, zi_and31, zi_and255]) (by simp only [zi_add, zi_sub, zi_mul, zi_neg, zi_and1, zi_and7, zi_and15, zi_and31, zi_and255]) ?_
          refine gs_put rfl (by decide) rfl sh56 tx rfl rfl rfl rfl (Or.inl rfl) (by decide) (by omega) (by omega) (fun h68 sh68 eh68 fh68 => ?_)
          have pr69 := gEl.pt fh68 tx (by decide) pr57
          have pr70 := gLv.pt fh68 tx (by decide) pr58
          have pr71 := gEl.pt fh68 tx (by decide) pr59
          have pr72 := gEl.pt fh68 tx (by decide) pr66
          have pr73 := gUs.pt fh68 tx (by decide) hus67
          have s74 := (fh68 x 3 (fun q => absurd q.2 (by decide))).trans s62
          have s75 := (fh68 x 6 (fun q => absurd q.2 (by decide))).trans s63
          have s76 := (fh68 x 5 (fun q => absurd q.2 (by decide))).trans s64
          have s77 := (fh68 x 7 (fun q => absurd q.2 (by decide))).trans s65
          refine gy_s 2 (pc' := 7) (L' := [some (.ref x), some (.int ((zi sy) + zi 1)), none]) (S' := []) (L2 := [some (.ref x), some (.int (zi (sy + 1))), none]) (S2 := []) rfl (by simp only [zi_add, zi_sub, zi_mul, zi_neg, zi_and1, zi_and7, zi_and15, zi_and31, zi_and255]) (by simp only [zi_add, zi_sub, zi_mul, zi_neg, zi_and1, zi_and7, zi_and15, zi_and31, zi_and255]) ?_
          exact gz_wk (ihlp2 h68 (sy + 1) (un + 1) (by omega) sh68 (by omega) (by omega) (by omega) eh68 pr70 pr73) (gLw.s (gLw.s (gLw.n gLw.z)))
  exact gz_wk (lp2 _ h1 0 0 (Nat.lt_succ_self _) sh1 (by omega) (by omega) (by omega) eh1 (gLv.zero (ty := ty) (q := 79) (v := 0) (h := h1) (fun _ => rfl)) hus4) (gLw.s (gLw.s (gLw.n gLw.z)))
