/-! ===== methods of the landed text (by program) ===== -/
set_option maxRecDepth 20000 in
set_option maxHeartbeats 4000000 in
theorem cl_Reader_isRestart (d : Nat) {ty : Nat → Nat} {h : gH} (hJ : gJ rT 1027 ty h) (m : Int) (rm : (-2147483648) ≤ m ∧ m ≤ 2147483647) (uq : gUq ty) : gz gPP gGG gcn (d + 0) gt20 0 (gent [.int (zi m)] 1) [] h (fun q _ => gSs rT 1027 ty [] h q.2.2 ∧ ∃ z : Int, gfin gt20 q.1 q.2.1 = some (some (.int (zi z))) ∧ 0 ≤ z ∧ z ≤ 1 ∧ (z = 1 ↔ (208 ≤ m ∧ m ≤ 215))) := by
  have hS : gSs rT 1027 ty [] h h := gSs.rf hJ
  refine gz_s 2 (pc' := 4) (L' := [some (.int (zi m))]) (S' := [.int (zi 208), .int (zi m)]) rfl ?_
  by_cases hc1 : (m : Int) < 208
  · refine gy_icT (pc' := 18) rfl (by decide) (by decide) (by omega) (by omega) hc1 ?_
    refine gz_s 1 (pc' := 19) (L' := [some (.int (zi m))]) (S' := [.int (zi 0)]) rfl ?_
    exact gz_end (I := .ireturn) (len := 1) rfl (Or.inl rfl) ⟨hS, 0, gfin_z rfl rfl (by omega), (by omega), (by omega), (by omega)⟩
  · refine gy_icF rfl (by decide) (by decide) (by omega) (by omega) hc1 ?_
    refine gz_s 2 (pc' := 11) (L' := [some (.int (zi m))]) (S' := [.int (zi 215), .int (zi m)]) rfl ?_
    by_cases hc2 : (215 : Int) < m
    · refine gy_icT (pc' := 18) rfl (by decide) (by decide) (by omega) (by omega) hc2 ?_
      refine gz_s 1 (pc' := 19) (L' := [some (.int (zi m))]) (S' := [.int (zi 0)]) rfl ?_
      exact gz_end (I := .ireturn) (len := 1) rfl (Or.inl rfl) ⟨hS, 0, gfin_z rfl rfl (by omega), (by omega), (by omega), (by omega)⟩
    · refine gy_icF rfl (by decide) (by decide) (by omega) (by omega) hc2 ?_
      refine gz_s 2 (pc' := 19) (L' := [some (.int (zi m))]) (S' := [.int (zi 1)]) rfl ?_
      exact gz_end (I := .ireturn) (len := 1) rfl (Or.inl rfl) ⟨hS, 1, gfin_z rfl rfl (by omega), (by omega), (by omega), (by omega)⟩
set_option maxRecDepth 20000 in
set_option maxHeartbeats 4000000 in
theorem cl_Reader_isRefused (d : Nat) {ty : Nat → Nat} {h : gH} (hJ : gJ rT 1027 ty h) (x : Nat) (tx : ty x = 65) (m : Int) (rm : (-1) ≤ m ∧ m ≤ 255) (pic : Nat) (epic : h.2.2.2.2 x 1 = .ref pic) (tpic : ty pic = 54) (cn : Int) (ecn : h.2.2.2.2 pic 7 = .int (zi cn)) (rcn : 0 ≤ cn ∧ cn ≤ 3) (uq : gUq ty) : gz gPP gGG gcn (d + 0) gt21 0 (gent [.ref x, .int (zi m)] 2) [] h (fun q _ => gSs rT 1027 ty [] h q.2.2 ∧ ∃ z : Int, gfin gt21 q.1 q.2.1 = some (some (.int (zi z))) ∧ 0 ≤ z ∧ z ≤ 1 ∧ (z = 0 → (m = 218 → ¬ cn = 0)) ∧ (z = 0 → ((m = 192 ∨ m = 194) → cn = 0))) := by
  have hS : gSs rT 1027 ty [] h h := gSs.rf hJ
  refine gz_s 1 (pc' := 1) (L' := [some (.ref x), some (.int (zi m))]) (S' := [.int (zi m)]) rfl ?_
  rcases (by omega : m = 0 ∨ m = 192 ∨ m = 193 ∨ m = 194 ∨ m = 195 ∨ m = 197 ∨ m = 198 ∨ m = 199 ∨ m = 201 ∨ m = 202 ∨ m = 203 ∨ m = 205 ∨ m = 206 ∨ m = 207 ∨ m = 216 ∨ m = 218 ∨ (¬ m = 0 ∧ ¬ m = 192 ∧ ¬ m = 193 ∧ ¬ m = 194 ∧ ¬ m = 195 ∧ ¬ m = 197 ∧ ¬ m = 198 ∧ ¬ m = 199 ∧ ¬ m = 201 ∧ ¬ m = 202 ∧ ¬ m = 203 ∧ ¬ m = 205 ∧ ¬ m = 206 ∧ ¬ m = 207 ∧ ¬ m = 216 ∧ ¬ m = 218)) with he1 | he1 | he1 | he1 | he1 | he1 | he1 | he1 | he1 | he1 | he1 | he1 | he1 | he1 | he1 | he1 | he1
  · refine gy_look (pc' := 140) (v := 0) (off := 139) rfl (by decide) (by decide) he1 (by decide) rfl (by decide) ?_
    refine gz_s 1 (pc' := 141) (L' := [some (.ref x), some (.int (zi m))]) (S' := [.int (zi 1)]) rfl ?_
    exact gz_end (I := .ireturn) (len := 1) rfl (Or.inl rfl) ⟨hS, 1, gfin_z rfl rfl (by omega), (by omega), (by omega), (by omega), (by omega)⟩
  · refine gy_look (pc' := 142) (v := 192) (off := 141) rfl (by decide) (by decide) he1 (by decide) rfl (by decide) ?_
    refine gz_s 1 (pc' := 143) (L' := [some (.ref x), some (.int (zi m))]) (S' := [.ref x]) rfl ?_
    refine gs_gtk rfl (by decide) rfl hS.1 tx rfl rfl epic ?_
    refine gs_gtk rfl (by decide) rfl hS.1 tpic rfl rfl ecn ?_
    by_cases hc2 : (cn : Int) ≤ 0
    · refine gy_ifT (pc' := 156) rfl (by decide) (by decide) (by omega) hc2 ?_
      refine gz_s 1 (pc' := 157) (L' := [some (.ref x), some (.int (zi m))]) (S' := [.int (zi 0)]) rfl ?_
      exact gz_end (I := .ireturn) (len := 1) rfl (Or.inl rfl) ⟨hS, 0, gfin_z rfl rfl (by omega), (by omega), (by omega), (by omega), (by omega)⟩
    · refine gy_ifF rfl (by decide) (by decide) (by omega) hc2 ?_
      refine gz_s 2 (pc' := 157) (L' := [some (.ref x), some (.int (zi m))]) (S' := [.int (zi 1)]) rfl ?_
      exact gz_end (I := .ireturn) (len := 1) rfl (Or.inl rfl) ⟨hS, 1, gfin_z rfl rfl (by omega), (by omega), (by omega), (by omega), (by omega)⟩
  · refine gy_look (pc' := 140) (v := 193) (off := 139) rfl (by decide) (by decide) he1 (by decide) rfl (by decide) ?_
    refine gz_s 1 (pc' := 141) (L' := [some (.ref x), some (.int (zi m))]) (S' := [.int (zi 1)]) rfl ?_
    exact gz_end (I := .ireturn) (len := 1) rfl (Or.inl rfl) ⟨hS, 1, gfin_z rfl rfl (by omega), (by omega), (by omega), (by omega), (by omega)⟩
  · refine gy_look (pc' := 142) (v := 194) (off := 141) rfl (by decide) (by decide) he1 (by decide) rfl (by decide) ?_
    refine gz_s 1 (pc' := 143) (L' := [some (.ref x), some (.int (zi m))]) (S' := [.ref x]) rfl ?_
    refine gs_gtk rfl (by decide) rfl hS.1 tx rfl rfl epic ?_
    refine gs_gtk rfl (by decide) rfl hS.1 tpic rfl rfl ecn ?_
    by_cases hc3 : (cn : Int) ≤ 0
    · refine gy_ifT (pc' := 156) rfl (by decide) (by decide) (by omega) hc3 ?_
      refine gz_s 1 (pc' := 157) (L' := [some (.ref x), some (.int (zi m))]) (S' := [.int (zi 0)]) rfl ?_
      exact gz_end (I := .ireturn) (len := 1) rfl (Or.inl rfl) ⟨hS, 0, gfin_z rfl rfl (by omega), (by omega), (by omega), (by omega), (by omega)⟩
    · refine gy_ifF rfl (by decide) (by decide) (by omega) hc3 ?_
      refine gz_s 2 (pc' := 157) (L' := [some (.ref x), some (.int (zi m))]) (S' := [.int (zi 1)]) rfl ?_
      exact gz_end (I := .ireturn) (len := 1) rfl (Or.inl rfl) ⟨hS, 1, gfin_z rfl rfl (by omega), (by omega), (by omega), (by omega), (by omega)⟩
  · refine gy_look (pc' := 140) (v := 195) (off := 139) rfl (by decide) (by decide) he1 (by decide) rfl (by decide) ?_
    refine gz_s 1 (pc' := 141) (L' := [some (.ref x), some (.int (zi m))]) (S' := [.int (zi 1)]) rfl ?_
    exact gz_end (I := .ireturn) (len := 1) rfl (Or.inl rfl) ⟨hS, 1, gfin_z rfl rfl (by omega), (by omega), (by omega), (by omega), (by omega)⟩
  · refine gy_look (pc' := 140) (v := 197) (off := 139) rfl (by decide) (by decide) he1 (by decide) rfl (by decide) ?_
    refine gz_s 1 (pc' := 141) (L' := [some (.ref x), some (.int (zi m))]) (S' := [.int (zi 1)]) rfl ?_
    exact gz_end (I := .ireturn) (len := 1) rfl (Or.inl rfl) ⟨hS, 1, gfin_z rfl rfl (by omega), (by omega), (by omega), (by omega), (by omega)⟩
  · refine gy_look (pc' := 140) (v := 198) (off := 139) rfl (by decide) (by decide) he1 (by decide) rfl (by decide) ?_
    refine gz_s 1 (pc' := 141) (L' := [some (.ref x), some (.int (zi m))]) (S' := [.int (zi 1)]) rfl ?_
    exact gz_end (I := .ireturn) (len := 1) rfl (Or.inl rfl) ⟨hS, 1, gfin_z rfl rfl (by omega), (by omega), (by omega), (by omega), (by omega)⟩
  · refine gy_look (pc' := 140) (v := 199) (off := 139) rfl (by decide) (by decide) he1 (by decide) rfl (by decide) ?_
    refine gz_s 1 (pc' := 141) (L' := [some (.ref x), some (.int (zi m))]) (S' := [.int (zi 1)]) rfl ?_
    exact gz_end (I := .ireturn) (len := 1) rfl (Or.inl rfl) ⟨hS, 1, gfin_z rfl rfl (by omega), (by omega), (by omega), (by omega), (by omega)⟩
  · refine gy_look (pc' := 140) (v := 201) (off := 139) rfl (by decide) (by decide) he1 (by decide) rfl (by decide) ?_
    refine gz_s 1 (pc' := 141) (L' := [some (.ref x), some (.int (zi m))]) (S' := [.int (zi 1)]) rfl ?_
    exact gz_end (I := .ireturn) (len := 1) rfl (Or.inl rfl) ⟨hS, 1, gfin_z rfl rfl (by omega), (by omega), (by omega), (by omega), (by omega)⟩
  · refine gy_look (pc' := 140) (v := 202) (off := 139) rfl (by decide) (by decide) he1 (by decide) rfl (by decide) ?_
    refine gz_s 1 (pc' := 141) (L' := [some (.ref x), some (.int (zi m))]) (S' := [.int (zi 1)]) rfl ?_
    exact gz_end (I := .ireturn) (len := 1) rfl (Or.inl rfl) ⟨hS, 1, gfin_z rfl rfl (by omega), (by omega), (by omega), (by omega), (by omega)⟩
  · refine gy_look (pc' := 140) (v := 203) (off := 139) rfl (by decide) (by decide) he1 (by decide) rfl (by decide) ?_
    refine gz_s 1 (pc' := 141) (L' := [some (.ref x), some (.int (zi m))]) (S' := [.int (zi 1)]) rfl ?_
    exact gz_end (I := .ireturn) (len := 1) rfl (Or.inl rfl) ⟨hS, 1, gfin_z rfl rfl (by omega), (by omega), (by omega), (by omega), (by omega)⟩
  · refine gy_look (pc' := 140) (v := 205) (off := 139) rfl (by decide) (by decide) he1 (by decide) rfl (by decide) ?_
    refine gz_s 1 (pc' := 141) (L' := [some (.ref x), some (.int (zi m))]) (S' := [.int (zi 1)]) rfl ?_
    exact gz_end (I := .ireturn) (len := 1) rfl (Or.inl rfl) ⟨hS, 1, gfin_z rfl rfl (by omega), (by omega), (by omega), (by omega), (by omega)⟩
  · refine gy_look (pc' := 140) (v := 206) (off := 139) rfl (by decide) (by decide) he1 (by decide) rfl (by decide) ?_
    refine gz_s 1 (pc' := 141) (L' := [some (.ref x), some (.int (zi m))]) (S' := [.int (zi 1)]) rfl ?_
    exact gz_end (I := .ireturn) (len := 1) rfl (Or.inl rfl) ⟨hS, 1, gfin_z rfl rfl (by omega), (by omega), (by omega), (by omega), (by omega)⟩
  · refine gy_look (pc' := 140) (v := 207) (off := 139) rfl (by decide) (by decide) he1 (by decide) rfl (by decide) ?_
    refine gz_s 1 (pc' := 141) (L' := [some (.ref x), some (.int (zi m))]) (S' := [.int (zi 1)]) rfl ?_
    exact gz_end (I := .ireturn) (len := 1) rfl (Or.inl rfl) ⟨hS, 1, gfin_z rfl rfl (by omega), (by omega), (by omega), (by omega), (by omega)⟩
  · refine gy_look (pc' := 140) (v := 216) (off := 139) rfl (by decide) (by decide) he1 (by decide) rfl (by decide) ?_
    refine gz_s 1 (pc' := 141) (L' := [some (.ref x), some (.int (zi m))]) (S' := [.int (zi 1)]) rfl ?_
    exact gz_end (I := .ireturn) (len := 1) rfl (Or.inl rfl) ⟨hS, 1, gfin_z rfl rfl (by omega), (by omega), (by omega), (by omega), (by omega)⟩
  · refine gy_look (pc' := 158) (v := 218) (off := 157) rfl (by decide) (by decide) he1 (by decide) rfl (by decide) ?_
    refine gz_s 1 (pc' := 159) (L' := [some (.ref x), some (.int (zi m))]) (S' := [.ref x]) rfl ?_
    refine gs_gtk rfl (by decide) rfl hS.1 tx rfl rfl epic ?_
    refine gs_gtk rfl (by decide) rfl hS.1 tpic rfl rfl ecn ?_
    by_cases hc4 : ¬ (cn : Int) = 0
    · refine gy_ifT (pc' := 172) rfl (by decide) (by decide) (by omega) hc4 ?_
      refine gz_s 1 (pc' := 173) (L' := [some (.ref x), some (.int (zi m))]) (S' := [.int (zi 0)]) rfl ?_
      exact gz_end (I := .ireturn) (len := 1) rfl (Or.inl rfl) ⟨hS, 0, gfin_z rfl rfl (by omega), (by omega), (by omega), (by omega), (by omega)⟩
    · refine gy_ifF rfl (by decide) (by decide) (by omega) hc4 ?_
      refine gz_s 2 (pc' := 173) (L' := [some (.ref x), some (.int (zi m))]) (S' := [.int (zi 1)]) rfl ?_
      exact gz_end (I := .ireturn) (len := 1) rfl (Or.inl rfl) ⟨hS, 1, gfin_z rfl rfl (by omega), (by omega), (by omega), (by omega), (by omega)⟩
  · refine gy_lookD (pc' := 174) rfl (by decide) (by omega) (by decide) (by simp; omega) (by decide) ?_
    refine gz_s 1 (pc' := 175) (L' := [some (.ref x), some (.int (zi m))]) (S' := [.int (zi 0)]) rfl ?_
    exact gz_end (I := .ireturn) (len := 1) rfl (Or.inl rfl) ⟨hS, 0, gfin_z rfl rfl (by omega), (by omega), (by omega), (by omega), (by omega)⟩
set_option maxRecDepth 20000 in
set_option maxHeartbeats 4000000 in
theorem cl_Reader_readTables (d : Nat) {ty : Nat → Nat} {h : gH} (hJ : gJ rT 1027 ty h) (x : Nat) (tx : ty x = 65) (f : Int) (rf : 0 ≤ f ∧ f ≤ 4100) (en : Int) (ren : 0 ≤ en ∧ en ≤ 4100) (src : Nat) (esrc : h.2.2.2.2 x 0 = .ref src) (tsrc : ty src = 51) (pic : Nat) (epic : h.2.2.2.2 x 1 = .ref pic) (tpic : ty pic = 54) (sz : Int) (esz : h.2.2.2.2 src 1 = .int (zi sz)) (rsz : 0 ≤ sz ∧ sz ≤ 2000) (uq : gUq ty) : gz gPP gGG gcn (d + 1) gt23 0 (gent [.ref x, .int (zi f), .int (zi en)] 7) [] h (fun q _ => gSs rT 1027 ty [58999] h q.2.2 ∧ ∃ z : Int, gfin gt23 q.1 q.2.1 = some (some (.int (zi z))) ∧ (-1) ≤ z ∧ z ≤ 4100 ∧ (z = -1 ∨ (f ≤ z ∧ z < en))) := by
  have hS : gSs rT 1027 ty [58999] h h := gSs.rf hJ
  refine gz_s 2 (pc' := 2) (L' := [some (.ref x), some (.int (zi f)), some (.int (zi en)), some (.int (zi f)), none, none, none]) (S' := []) rfl ?_
  have lp1 : ∀ (fu : Nat) (h2 : gH) (e : Int), (4300 - e).toNat < fu → gSs rT 1027 ty [58999] h h2 → (0 ≤ e ∧ e ≤ 4200) → (f ≤ e) → h2.2.2.2.2 x 0 = .ref src → h2.2.2.2.2 x 1 = .ref pic → h2.2.2.2.2 src 1 = .int (zi sz) → gz gPP gGG gcn (d + 1) gt23 2 [some (.ref x), some (.int (zi f)), some (.int (zi en)), some (.int (zi e)), none, none, none] [] h2 (fun q _ => gSs rT 1027 ty [58999] h q.2.2 ∧ ∃ z : Int, gfin gt23 q.1 q.2.1 = some (some (.int (zi z))) ∧ (-1) ≤ z ∧ z ≤ 4100 ∧ (z = -1 ∨ (f ≤ z ∧ z < en))) := by
    intro fu
    induction fu with
    | zero => intro h2 e hm; exact absurd hm (Nat.not_lt_zero _)
    | succ fu ihlp1 =>
      intro h2 e lp1m sh2 lp1f0 lp1f1 lp1k0 lp1k1 lp1k2
      refine gz_s 2 (pc' := 4) (L' := [some (.ref x), some (.int (zi f)), some (.int (zi en)), some (.int (zi e)), none, none, none]) (S' := [.int (zi en), .int (zi e)]) rfl ?_
      by_cases hc3 : (en : Int) ≤ e
      · refine gy_icT (pc' := 101) rfl (by decide) (by decide) (by omega) (by omega) hc3 ?_
        refine gz_s 1 (pc' := 102) (L' := [some (.ref x), some (.int (zi f)), some (.int (zi en)), some (.int (zi e)), none, none, none]) (S' := [.int (zi (-1))]) rfl ?_
        exact gz_end (I := .ireturn) (len := 1) rfl (Or.inl rfl) ⟨sh2, (-1), rfl, (by omega), (by omega), (by omega)⟩
      · refine gy_icF rfl (by decide) (by decide) (by omega) (by omega) hc3 ?_
        refine gz_s 1 (pc' := 8) (L' := [some (.ref x), some (.int (zi f)), some (.int (zi en)), some (.int (zi e)), none, none, none]) (S' := [.ref x]) rfl ?_
        refine gs_gtk rfl (by decide) rfl sh2.1 tx rfl rfl lp1k0 ?_
        refine gz_s 1 (pc' := 12) (L' := [some (.ref x), some (.int (zi f)), some (.int (zi en)), some (.int (zi e)), none, none, none]) (S' := [.int (zi e), .ref src]) rfl ?_
        refine gz_call rfl (by decide) rfl (by decide) (by decide) (gcal_of rfl rfl rfl (Nat.le_of_ble_eq_true rfl) (gJ.recv (G := gGG) sh2.1 tsrc rfl rfl)) (cl_Collected_byteAt _ sh2.1 src tsrc e (by omega) sz lp1k2 (by omega) uq) (fun q4 _ wq4 => ?_)
        obtain ⟨pq4, oq4, hq4⟩ := q4
        obtain ⟨xq4, zq4, gq4, aq4, bq4, uq4_0⟩ := wq4
        refine ⟨_, gq4, ?_⟩
        show gz gPP gGG gcn _ _ 15 [some (.ref x), some (.int (zi f)), some (.int (zi en)), some (.int (zi e)), none, none, none] [.int (zi zq4)] hq4 _
        have sq4 : gSs rT 1027 ty [58999] h hq4 := gSs.tr sh2 xq4 (by decide)
        have s5 := (xq4.2.2.2.2.2 x 0 (by rw [tx]; decide)).trans lp1k0
        have s6 := (xq4.2.2.2.2.2 x 1 (by rw [tx]; decide)).trans lp1k1
        have s7 := (xq4.2.2.2.2.2 src 1 (by rw [tsrc]; decide)).trans lp1k2
        refine gz_s 2 (pc' := 19) (L' := [some (.ref x), some (.int (zi f)), some (.int (zi en)), some (.int (zi e)), some (.int (zi zq4)), none, none]) (S' := [.int (zi zq4)]) rfl ?_
        by_cases hc8 : (zq4 : Int) < 0
        · refine gy_ifT (pc' := 36) rfl (by decide) (by decide) (by omega) hc8 ?_
          refine gz_s 1 (pc' := 37) (L' := [some (.ref x), some (.int (zi f)), some (.int (zi en)), some (.int (zi e)), some (.int (zi zq4)), none, none]) (S' := [.int (zi e)]) rfl ?_
          exact gz_end (I := .ireturn) (len := 1) rfl (Or.inl rfl) ⟨sq4, e, rfl, (by omega), (by omega), (by omega)⟩
        · refine gy_ifF rfl (by decide) (by decide) (by omega) hc8 ?_
          refine gz_s 2 (pc' := 25) (L' := [some (.ref x), some (.int (zi f)), some (.int (zi en)), some (.int (zi e)), some (.int (zi zq4)), none, none]) (S' := [.int (zi 4), .int (zi zq4)]) rfl ?_
          by_cases hc9 : (4 : Int) ≤ zq4
          · refine gy_icT (pc' := 36) rfl (by decide) (by decide) (by omega) (by omega) hc9 ?_
            refine gz_s 1 (pc' := 37) (L' := [some (.ref x), some (.int (zi f)), some (.int (zi en)), some (.int (zi e)), some (.int (zi zq4)), none, none]) (S' := [.int (zi e)]) rfl ?_
            exact gz_end (I := .ireturn) (len := 1) rfl (Or.inl rfl) ⟨sq4, e, rfl, (by omega), (by omega), (by omega)⟩
          · refine gy_icF rfl (by decide) (by decide) (by omega) (by omega) hc9 ?_
            refine gy_s 4 (pc' := 33) (L' := [some (.ref x), some (.int (zi f)), some (.int (zi en)), some (.int (zi e)), some (.int (zi zq4)), none, none]) (S' := [.int (zi en), .int ((zi e) + (zi 65))]) (L2 := [some (.ref x), some (.int (zi f)), some (.int (zi en)), some (.int (zi e)), some (.int (zi zq4)), none, none]) (S2 := [.int (zi en), .int (zi (e + 65))]) rfl (by simp only [zi_add, zi_sub, zi_mul, zi_neg, zi_and1, zi_and7, zi_and15, zi_and31, zi_and255]) (by simp only [zi_add, zi_sub, zi_mul, zi_neg, zi_and1, zi_and7, zi_and15, zi_and31, zi_and255]) ?_
            by_cases hc10 : (e + 65 : Int) ≤ en
            · refine gy_icT (pc' := 38) rfl (by decide) (by decide) (by omega) (by omega) hc10 ?_
              refine gz_s 2 (pc' := 41) (L' := [some (.ref x), some (.int (zi f)), some (.int (zi en)), some (.int (zi e)), some (.int (zi zq4)), some (.int (zi 0)), none]) (S' := []) rfl ?_
              have lp11 : ∀ (fu : Nat) (h12 : gH) (i : Int), (65 - i).toNat < fu → gSs rT 1027 ty [58999] h h12 → (0 ≤ i ∧ i ≤ 64) → h12.2.2.2.2 x 0 = .ref src → h12.2.2.2.2 x 1 = .ref pic → h12.2.2.2.2 src 1 = .int (zi sz) → gz gPP gGG gcn (d + 1) gt23 41 [some (.ref x), some (.int (zi f)), some (.int (zi en)), some (.int (zi e)), some (.int (zi zq4)), some (.int (zi i)), none] [] h12 (fun q _ => gSs rT 1027 ty [58999] h q.2.2 ∧ ∃ z : Int, gfin gt23 q.1 q.2.1 = some (some (.int (zi z))) ∧ (-1) ≤ z ∧ z ≤ 4100 ∧ (z = -1 ∨ (f ≤ z ∧ z < en))) := by
                intro fu
                induction fu with
                | zero => intro h12 i hm; exact absurd hm (Nat.not_lt_zero _)
                | succ fu ihlp11 =>
                  intro h12 i lp11m sh12 lp11f0 lp11k0 lp11k1 lp11k2
                  refine gz_s 2 (pc' := 45) (L' := [some (.ref x), some (.int (zi f)), some (.int (zi en)), some (.int (zi e)), some (.int (zi zq4)), some (.int (zi i)), none]) (S' := [.int (zi 64), .int (zi i)]) rfl ?_
                  by_cases hc13 : (64 : Int) ≤ i
                  · refine gy_icT (pc' := 95) rfl (by decide) (by decide) (by omega) (by omega) hc13 ?_
                    refine gy_s 2 (pc' := 2) (L' := [some (.ref x), some (.int (zi f)), some (.int (zi en)), some (.int ((zi e) + zi 65)), some (.int (zi zq4)), some (.int (zi i)), none]) (S' := []) (L2 := [some (.ref x), some (.int (zi f)), some (.int (zi en)), some (.int (zi (e + 65))), some (.int (zi zq4)), some (.int (zi i)), none]) (S2 := []) rfl (by simp only [zi_add, zi_sub, zi_mul, zi_neg, zi_and1, zi_and7, zi_and15, zi_and31, zi_and255]) (by simp only [zi_add, zi_sub, zi_mul, zi_neg, zi_and1, zi_and7, zi_and15, zi_and31, zi_and255]) ?_
                    exact gz_wk (ihlp1 h12 (e + 65) (by omega) sh12 (by omega) (by omega) lp11k0 lp11k1 lp11k2) (gLw.s (gLw.s (gLw.s (gLw.s (gLw.n (gLw.n (gLw.n gLw.z)))))))
                  · refine gy_icF rfl (by decide) (by decide) (by omega) (by omega) hc13 ?_
                    refine gz_s 1 (pc' := 49) (L' := [some (.ref x), some (.int (zi f)), some (.int (zi en)), some (.int (zi e)), some (.int (zi zq4)), some (.int (zi i)), none]) (S' := [.ref x]) rfl ?_
                    refine gs_gtk rfl (by decide) rfl sh12.1 tx rfl rfl lp11k0 ?_
                    refine gy_s 5 (pc' := 58) (L' := [some (.ref x), some (.int (zi f)), some (.int (zi en)), some (.int (zi e)), some (.int (zi zq4)), some (.int (zi i)), none]) (S' := [.int (((zi e) + (zi 1)) + (zi i)), .ref src]) (L2 := [some (.ref x), some (.int (zi f)), some (.int (zi en)), some (.int (zi e)), some (.int (zi zq4)), some (.int (zi i)), none]) (S2 := [.int (zi ((e + 1) + i)), .ref src]) rfl (by simp only [zi_add, zi_sub, zi_mul, zi_neg, zi_and1, zi_and7, zi_and15, zi_and31, zi_and255]) (by simp only [zi_add, zi_sub, zi_mul, zi_neg, zi_and1, zi_and7, zi_and15, zi_and31, zi_and255]) ?_
                    refine gz_call rfl (by decide) rfl (by decide) (by decide) (gcal_of rfl rfl rfl (Nat.le_of_ble_eq_true rfl) (gJ.recv (G := gGG) sh12.1 tsrc rfl rfl)) (cl_Collected_byteAt _ sh12.1 src tsrc ((e + 1) + i) (by omega) sz lp11k2 (by omega) uq) (fun q14 _ wq14 => ?_)
                    obtain ⟨pq14, oq14, hq14⟩ := q14
                    obtain ⟨xq14, zq14, gq14, aq14, bq14, uq14_0⟩ := wq14
                    refine ⟨_, gq14, ?_⟩
                    show gz gPP gGG gcn _ _ 61 [some (.ref x), some (.int (zi f)), some (.int (zi en)), some (.int (zi e)), some (.int (zi zq4)), some (.int (zi i)), none] [.int (zi zq14)] hq14 _
                    have sq14 : gSs rT 1027 ty [58999] h hq14 := gSs.tr sh12 xq14 (by decide)
                    have s15 := (xq14.2.2.2.2.2 x 0 (by rw [tx]; decide)).trans lp11k0
                    have s16 := (xq14.2.2.2.2.2 x 1 (by rw [tx]; decide)).trans lp11k1
                    have s17 := (xq14.2.2.2.2.2 src 1 (by rw [tsrc]; decide)).trans lp11k2
                    refine gz_s 3 (pc' := 66) (L' := [some (.ref x), some (.int (zi f)), some (.int (zi en)), some (.int (zi e)), some (.int (zi zq4)), some (.int (zi i)), some (.int (zi zq14))]) (S' := [.int (zi 1), .int (zi zq14)]) rfl ?_
                    by_cases hc18 : (1 : Int) ≤ zq14
                    · refine gy_icT (pc' := 71) rfl (by decide) (by decide) (by omega) (by omega) hc18 ?_
                      refine gz_s 1 (pc' := 72) (L' := [some (.ref x), some (.int (zi f)), some (.int (zi en)), some (.int (zi e)), some (.int (zi zq4)), some (.int (zi i)), some (.int (zi zq14))]) (S' := [.ref x]) rfl ?_
                      refine gs_gtk rfl (by decide) rfl sq14.1 tx rfl rfl s16 ?_
                      refine gs_gtr rfl (by decide) rfl sq14.1 tpic rfl rfl rfl (fun c19 ec19 tc19 => ?_)
                      refine gy_s 6 (pc' := 88) (L' := [some (.ref x), some (.int (zi f)), some (.int (zi en)), some (.int (zi e)), some (.int (zi zq4)), some (.int (zi i)), some (.int (zi zq14))]) (S' := [.int (zi zq14), .int (((zi zq4) * (zi 64)) + (zi i)), .ref c19]) (L2 := [some (.ref x), some (.int (zi f)), some (.int (zi en)), some (.int (zi e)), some (.int (zi zq4)), some (.int (zi i)), some (.int (zi zq14))]) (S2 := [.int (zi zq14), .int (zi ((zq4 * 64) + i)), .ref c19]) rfl (by simp only [zi_add, zi_sub, zi_mul, zi_neg, zi_and1, zi_and7, zi_and15, zi_and31, zi_and255]) (by simp only [zi_add, zi_sub, zi_mul, zi_neg, zi_and1, zi_and7, zi_and15, zi_and31, zi_and255]) ?_
                      have hl20 : 256 ≤ hq14.2.2.2.1 c19 ∧ hq14.2.2.2.1 c19 ≤ 256 := gJ.rowl (G := gGG) sq14.1 tc19 rfl
                      refine gs_ast rfl (by decide) sq14 tc19 rfl rfl rfl (by decide) (fun _ => rfl) (by omega) (by omega) (fun _ => (by decide : (58999 : Nat) ∈ ([58999] : List Nat))) (by omega) (by omega) (fun h21 sh21 eh21 fh21 => ?_)
                      have s22 := (fh21 x 0 (fun q => absurd (((tx).symm.trans (congrArg ty q.1)).trans tc19) (by decide))).trans s15
                      have s23 := (fh21 x 1 (fun q => absurd (((tx).symm.trans (congrArg ty q.1)).trans tc19) (by decide))).trans s16
                      have s24 := (fh21 src 1 (fun q => absurd (((tsrc).symm.trans (congrArg ty q.1)).trans tc19) (by decide))).trans s17
                      have s25 := (fh21 pic 1 (fun q => absurd (((tpic).symm.trans (congrArg ty q.1)).trans tc19) (by decide))).trans ec19
                      have pr26 := gEl.set (i := (zq4 * 64) + i) (z := zq14) uq tc19 (by decide) eh21 (by omega) (by omega)
                      refine gy_s 2 (pc' := 41) (L' := [some (.ref x), some (.int (zi f)), some (.int (zi en)), some (.int (zi e)), some (.int (zi zq4)), some (.int ((zi i) + zi 1)), some (.int (zi zq14))]) (S' := []) (L2 := [some (.ref x), some (.int (zi f)), some (.int (zi en)), some (.int (zi e)), some (.int (zi zq4)), some (.int (zi (i + 1))), some (.int (zi zq14))]) (S2 := []) rfl (by simp only [zi_add, zi_sub, zi_mul, zi_neg, zi_and1, zi_and7, zi_and15, zi_and31, zi_and255]) (by simp only [zi_add, zi_sub, zi_mul, zi_neg, zi_and1, zi_and7, zi_and15, zi_and31, zi_and255]) ?_
                      exact gz_wk (ihlp11 h21 (i + 1) (by omega) sh21 (by omega) s22 s23 s24) (gLw.s (gLw.s (gLw.s (gLw.s (gLw.s (gLw.s (gLw.n gLw.z)))))))
                    · refine gy_icF rfl (by decide) (by decide) (by omega) (by omega) hc18 ?_
                      refine gz_s 1 (pc' := 70) (L' := [some (.ref x), some (.int (zi f)), some (.int (zi en)), some (.int (zi e)), some (.int (zi zq4)), some (.int (zi i)), some (.int (zi zq14))]) (S' := [.int (zi e)]) rfl ?_
                      exact gz_end (I := .ireturn) (len := 1) rfl (Or.inl rfl) ⟨sq14, e, rfl, (by omega), (by omega), (by omega)⟩
              exact gz_wk (lp11 _ hq4 0 (Nat.lt_succ_self _) sq4 (by omega) s5 s6 s7) (gLw.s (gLw.s (gLw.s (gLw.s (gLw.s (gLw.s (gLw.n gLw.z)))))))
            · refine gy_icF rfl (by decide) (by decide) (by omega) (by omega) hc10 ?_
              refine gz_s 1 (pc' := 37) (L' := [some (.ref x), some (.int (zi f)), some (.int (zi en)), some (.int (zi e)), some (.int (zi zq4)), none, none]) (S' := [.int (zi e)]) rfl ?_
              exact gz_end (I := .ireturn) (len := 1) rfl (Or.inl rfl) ⟨sq4, e, rfl, (by omega), (by omega), (by omega)⟩
  exact gz_wk (lp1 _ h f (Nat.lt_succ_self _) hS (by omega) (by omega) esrc epic esz) (gLw.s (gLw.s (gLw.s (gLw.s (gLw.n (gLw.n (gLw.n gLw.z)))))))
set_option maxRecDepth 20000 in
set_option maxHeartbeats 4000000 in
theorem cl_Reader_countSymbols (d : Nat) {ty : Nat → Nat} {h : gH} (hJ : gJ rT 1027 ty h) (x : Nat) (tx : ty x = 65) (e : Int) (re : 0 ≤ e ∧ e ≤ 4100) (en : Int) (ren : 0 ≤ en ∧ en ≤ 4100) (src : Nat) (esrc : h.2.2.2.2 x 0 = .ref src) (tsrc : ty src = 51) (sz : Int) (esz : h.2.2.2.2 src 1 = .int (zi sz)) (rsz : 0 ≤ sz ∧ sz ≤ 2000) (uq : gUq ty) : gz gPP gGG gcn (d + 1) gt25 0 (gent [.ref x, .int (zi e), .int (zi en)] 8) [] h (fun q _ => gSs rT 1027 ty [] h q.2.2 ∧ ∃ z : Int, gfin gt25 q.1 q.2.1 = some (some (.int (zi z))) ∧ (-16) ≤ z ∧ z ≤ 256 ∧ (0 ≤ z → e + 17 + z ≤ en)) := by
  have hS : gSs rT 1027 ty [] h h := gSs.rf hJ
  refine gz_s 1 (pc' := 1) (L' := [some (.ref x), some (.int (zi e)), some (.int (zi en)), none, none, none, none, none]) (S' := [.ref x]) rfl ?_
  refine gs_gtk rfl (by decide) rfl hS.1 tx rfl rfl esrc ?_
  refine gz_s 1 (pc' := 5) (L' := [some (.ref x), some (.int (zi e)), some (.int (zi en)), none, none, none, none, none]) (S' := [.int (zi e), .ref src]) rfl ?_
  refine gz_call rfl (by decide) rfl (by decide) (by decide) (gcal_of rfl rfl rfl (Nat.le_of_ble_eq_true rfl) (gJ.recv (G := gGG) hS.1 tsrc rfl rfl)) (cl_Collected_byteAt _ hS.1 src tsrc e (by omega) sz esz (by omega) uq) (fun q1 _ wq1 => ?_)
  obtain ⟨pq1, oq1, hq1⟩ := q1
  obtain ⟨xq1, zq1, gq1, aq1, bq1, uq1_0⟩ := wq1
  refine ⟨_, gq1, ?_⟩
  show gz gPP gGG gcn _ _ 8 [some (.ref x), some (.int (zi e)), some (.int (zi en)), none, none, none, none, none] [.int (zi zq1)] hq1 _
  have sq1 : gSs rT 1027 ty [] h hq1 := gSs.tr hS xq1 (by decide)
  have s2 := (xq1.2.2.2.2.2 x 0 (by rw [tx]; decide)).trans esrc
  have s3 := (xq1.2.2.2.2.2 src 1 (by rw [tsrc]; decide)).trans esz
  refine gz_s 2 (pc' := 10) (L' := [some (.ref x), some (.int (zi e)), some (.int (zi en)), some (.int (zi zq1)), none, none, none, none]) (S' := [.int (zi zq1)]) rfl ?_
  by_cases hc4 : (zq1 : Int) < 0
  · refine gy_ifT (pc' := 36) rfl (by decide) (by decide) (by omega) hc4 ?_
    refine gz_s 1 (pc' := 37) (L' := [some (.ref x), some (.int (zi e)), some (.int (zi en)), some (.int (zi zq1)), none, none, none, none]) (S' := [.int (zi (-1))]) rfl ?_
    exact gz_end (I := .ireturn) (len := 1) rfl (Or.inl rfl) ⟨sq1, (-1), rfl, (by omega), (by omega), (by omega)⟩
  · refine gy_ifF rfl (by decide) (by decide) (by omega) hc4 ?_
    refine gz_s 2 (pc' := 15) (L' := [some (.ref x), some (.int (zi e)), some (.int (zi en)), some (.int (zi zq1)), none, none, none, none]) (S' := [.int (zi 4), .int (zi zq1)]) rfl ?_
    refine gy_shc (n := 4) (v := 16) rfl (by decide) (by omega) (by decide) (by decide) rfl ?_
    refine gz_s 1 (pc' := 17) (L' := [some (.ref x), some (.int (zi e)), some (.int (zi en)), some (.int (zi zq1)), none, none, none, none]) (S' := [.int (zi 1), .int (zi (zq1 / 16))]) rfl ?_
    by_cases hc5 : (1 : Int) < zq1 / 16
    · refine gy_icT (pc' := 36) rfl (by decide) (by decide) (by omega) (by omega) hc5 ?_
      refine gz_s 1 (pc' := 37) (L' := [some (.ref x), some (.int (zi e)), some (.int (zi en)), some (.int (zi zq1)), none, none, none, none]) (S' := [.int (zi (-1))]) rfl ?_
      exact gz_end (I := .ireturn) (len := 1) rfl (Or.inl rfl) ⟨sq1, (-1), rfl, (by omega), (by omega), (by omega)⟩
    · refine gy_icF rfl (by decide) (by decide) (by omega) (by omega) hc5 ?_
      refine gy_s 4 (pc' := 25) (L' := [some (.ref x), some (.int (zi e)), some (.int (zi en)), some (.int (zi zq1)), none, none, none, none]) (S' := [.int (zi 3), .int ((zi zq1) &&& (zi 15))]) (L2 := [some (.ref x), some (.int (zi e)), some (.int (zi en)), some (.int (zi zq1)), none, none, none, none]) (S2 := [.int (zi 3), .int (zi (zq1 % 16))]) rfl (by simp only [zi_add, zi_sub, zi_mul, zi_neg, zi_and1, zi_and7, zi_and15, zi_and31, zi_and255]) (by simp only [zi_add, zi_sub, zi_mul, zi_neg, zi_and1, zi_and7, zi_and15, zi_and31, zi_and255]) ?_
      by_cases hc6 : (3 : Int) < zq1 % 16
      · refine gy_icT (pc' := 36) rfl (by decide) (by decide) (by omega) (by omega) hc6 ?_
        refine gz_s 1 (pc' := 37) (L' := [some (.ref x), some (.int (zi e)), some (.int (zi en)), some (.int (zi zq1)), none, none, none, none]) (S' := [.int (zi (-1))]) rfl ?_
        exact gz_end (I := .ireturn) (len := 1) rfl (Or.inl rfl) ⟨sq1, (-1), rfl, (by omega), (by omega), (by omega)⟩
      · refine gy_icF rfl (by decide) (by decide) (by omega) (by omega) hc6 ?_
        refine gy_s 4 (pc' := 33) (L' := [some (.ref x), some (.int (zi e)), some (.int (zi en)), some (.int (zi zq1)), none, none, none, none]) (S' := [.int (zi en), .int ((zi e) + (zi 17))]) (L2 := [some (.ref x), some (.int (zi e)), some (.int (zi en)), some (.int (zi zq1)), none, none, none, none]) (S2 := [.int (zi en), .int (zi (e + 17))]) rfl (by simp only [zi_add, zi_sub, zi_mul, zi_neg, zi_and1, zi_and7, zi_and15, zi_and31, zi_and255]) (by simp only [zi_add, zi_sub, zi_mul, zi_neg, zi_and1, zi_and7, zi_and15, zi_and31, zi_and255]) ?_
        by_cases hc7 : (e + 17 : Int) ≤ en
        · refine gy_icT (pc' := 38) rfl (by decide) (by decide) (by omega) (by omega) hc7 ?_
          refine gz_s 6 (pc' := 47) (L' := [some (.ref x), some (.int (zi e)), some (.int (zi en)), some (.int (zi zq1)), some (.int (zi 0)), some (.int (zi 0)), some (.int (zi 1)), none]) (S' := []) rfl ?_
          have lp8 : ∀ (fu : Nat) (h9 : gH) (sy : Int) (nx : Int) (bt : Int), (18 - bt).toNat < fu → gSs rT 1027 ty [] h h9 → ((-16) ≤ sy ∧ sy ≤ 4080) → ((-2147483648) ≤ nx ∧ nx ≤ 2147483647) → (1 ≤ bt ∧ bt ≤ 17) → (sy ≤ 255 * (bt - 1)) → (1 - bt ≤ sy) → h9.2.2.2.2 x 0 = .ref src → h9.2.2.2.2 src 1 = .int (zi sz) → gz gPP gGG gcn (d + 1) gt25 47 [some (.ref x), some (.int (zi e)), some (.int (zi en)), some (.int (zi zq1)), some (.int (zi sy)), some (.int (zi nx)), some (.int (zi bt)), none] [] h9 (fun q _ => gSs rT 1027 ty [] h q.2.2 ∧ ∃ z : Int, gfin gt25 q.1 q.2.1 = some (some (.int (zi z))) ∧ (-16) ≤ z ∧ z ≤ 256 ∧ (0 ≤ z → e + 17 + z ≤ en)) := by
            intro fu
            induction fu with
            | zero => intro h9 sy nx bt hm; exact absurd hm (Nat.not_lt_zero _)
            | succ fu ihlp8 =>
              intro h9 sy nx bt lp8m sh9 lp8f0 lp8f1 lp8f2 lp8f3 lp8f4 lp8k0 lp8k1
              refine gz_s 2 (pc' := 51) (L' := [some (.ref x), some (.int (zi e)), some (.int (zi en)), some (.int (zi zq1)), some (.int (zi sy)), some (.int (zi nx)), some (.int (zi bt)), none]) (S' := [.int (zi 16), .int (zi bt)]) rfl ?_
              by_cases hc10 : (16 : Int) < bt
              · refine gy_icT (pc' := 100) rfl (by decide) (by decide) (by omega) (by omega) hc10 ?_
                refine gz_s 2 (pc' := 105) (L' := [some (.ref x), some (.int (zi e)), some (.int (zi en)), some (.int (zi zq1)), some (.int (zi sy)), some (.int (zi nx)), some (.int (zi bt)), none]) (S' := [.int (zi 256), .int (zi sy)]) rfl ?_
                by_cases hc11 : (256 : Int) < sy
                · refine gy_icT (pc' := 119) rfl (by decide) (by decide) (by omega) (by omega) hc11 ?_
                  refine gz_s 2 (pc' := 125) (L' := [some (.ref x), some (.int (zi e)), some (.int (zi en)), some (.int (zi zq1)), some (.int (zi sy)), some (.int (zi nx)), some (.int (zi bt)), none]) (S' := [.int (zi (-1))]) rfl ?_
                  exact gz_end (I := .ireturn) (len := 1) rfl (Or.inl rfl) ⟨sh9, (-1), rfl, (by omega), (by omega), (by omega)⟩
                · refine gy_icF rfl (by decide) (by decide) (by omega) (by omega) hc11 ?_
                  refine gy_s 6 (pc' := 116) (L' := [some (.ref x), some (.int (zi e)), some (.int (zi en)), some (.int (zi zq1)), some (.int (zi sy)), some (.int (zi nx)), some (.int (zi bt)), none]) (S' := [.int (zi en), .int (((zi e) + (zi 17)) + (zi sy))]) (L2 := [some (.ref x), some (.int (zi e)), some (.int (zi en)), some (.int (zi zq1)), some (.int (zi sy)), some (.int (zi nx)), some (.int (zi bt)), none]) (S2 := [.int (zi en), .int (zi ((e + 17) + sy))]) rfl (by simp only [zi_add, zi_sub, zi_mul, zi_neg, zi_and1, zi_and7, zi_and15, zi_and31, zi_and255]) (by simp only [zi_add, zi_sub, zi_mul, zi_neg, zi_and1, zi_and7, zi_and15, zi_and31, zi_and255]) ?_
                  by_cases hc12 : ((e + 17) + sy : Int) ≤ en
                  · refine gy_icT (pc' := 123) rfl (by decide) (by decide) (by omega) (by omega) hc12 ?_
                    refine gz_s 1 (pc' := 125) (L' := [some (.ref x), some (.int (zi e)), some (.int (zi en)), some (.int (zi zq1)), some (.int (zi sy)), some (.int (zi nx)), some (.int (zi bt)), none]) (S' := [.int (zi sy)]) rfl ?_
                    exact gz_end (I := .ireturn) (len := 1) rfl (Or.inl rfl) ⟨sh9, sy, rfl, (by omega), (by omega), (by omega)⟩
                  · refine gy_icF rfl (by decide) (by decide) (by omega) (by omega) hc12 ?_
                    refine gz_s 2 (pc' := 125) (L' := [some (.ref x), some (.int (zi e)), some (.int (zi en)), some (.int (zi zq1)), some (.int (zi sy)), some (.int (zi nx)), some (.int (zi bt)), none]) (S' := [.int (zi (-1))]) rfl ?_
                    exact gz_end (I := .ireturn) (len := 1) rfl (Or.inl rfl) ⟨sh9, (-1), rfl, (by omega), (by omega), (by omega)⟩
              · refine gy_icF rfl (by decide) (by decide) (by omega) (by omega) hc10 ?_
                refine gz_s 1 (pc' := 55) (L' := [some (.ref x), some (.int (zi e)), some (.int (zi en)), some (.int (zi zq1)), some (.int (zi sy)), some (.int (zi nx)), some (.int (zi bt)), none]) (S' := [.ref x]) rfl ?_
                refine gs_gtk rfl (by decide) rfl sh9.1 tx rfl rfl lp8k0 ?_
                refine gy_s 3 (pc' := 62) (L' := [some (.ref x), some (.int (zi e)), some (.int (zi en)), some (.int (zi zq1)), some (.int (zi sy)), some (.int (zi nx)), some (.int (zi bt)), none]) (S' := [.int ((zi e) + (zi bt)), .ref src]) (L2 := [some (.ref x), some (.int (zi e)), some (.int (zi en)), some (.int (zi zq1)), some (.int (zi sy)), some (.int (zi nx)), some (.int (zi bt)), none]) (S2 := [.int (zi (e + bt)), .ref src]) rfl (by simp only [zi_add, zi_sub, zi_mul, zi_neg, zi_and1, zi_and7, zi_and15, zi_and31, zi_and255]) (by simp only [zi_add, zi_sub, zi_mul, zi_neg, zi_and1, zi_and7, zi_and15, zi_and31, zi_and255]) ?_
                refine gz_call rfl (by decide) rfl (by decide) (by decide) (gcal_of rfl rfl rfl (Nat.le_of_ble_eq_true rfl) (gJ.recv (G := gGG) sh9.1 tsrc rfl rfl)) (cl_Collected_byteAt _ sh9.1 src tsrc (e + bt) (by omega) sz lp8k1 (by omega) uq) (fun q13 _ wq13 => ?_)
                obtain ⟨pq13, oq13, hq13⟩ := q13
                obtain ⟨xq13, zq13, gq13, aq13, bq13, uq13_0⟩ := wq13
                refine ⟨_, gq13, ?_⟩
                show gz gPP gGG gcn _ _ 65 [some (.ref x), some (.int (zi e)), some (.int (zi en)), some (.int (zi zq1)), some (.int (zi sy)), some (.int (zi nx)), some (.int (zi bt)), none] [.int (zi zq13)] hq13 _
                have sq13 : gSs rT 1027 ty [] h hq13 := gSs.tr sh9 xq13 (by decide)
                have s14 := (xq13.2.2.2.2.2 x 0 (by rw [tx]; decide)).trans lp8k0
                have s15 := (xq13.2.2.2.2.2 src 1 (by rw [tsrc]; decide)).trans lp8k1
                refine gy_s 4 (pc' := 71) (L' := [some (.ref x), some (.int (zi e)), some (.int (zi en)), some (.int (zi zq1)), some (.int (zi sy)), some (.int (zi nx)), some (.int (zi bt)), some (.int (zi zq13))]) (S' := [.int ((zi 2) * (zi nx))]) (L2 := [some (.ref x), some (.int (zi e)), some (.int (zi en)), some (.int (zi zq1)), some (.int (zi sy)), some (.int (zi nx)), some (.int (zi bt)), some (.int (zi zq13))]) (S2 := [.int (zi (2 * nx))]) rfl (by simp only [zi_add, zi_sub, zi_mul, zi_neg, zi_and1, zi_and7, zi_and15, zi_and31, zi_and255]) (by simp only [zi_add, zi_sub, zi_mul, zi_neg, zi_and1, zi_and7, zi_and15, zi_and31, zi_and255]) ?_
                refine gy_any (fun z16 ez16 az16 bz16 => ?_)
                refine gy_s 2 (pc' := 74) (L' := [some (.ref x), some (.int (zi e)), some (.int (zi en)), some (.int (zi zq1)), some (.int (zi sy)), some (.int (zi nx)), some (.int (zi bt)), some (.int (zi zq13))]) (S' := [.int ((zi z16) + (zi zq13))]) (L2 := [some (.ref x), some (.int (zi e)), some (.int (zi en)), some (.int (zi zq1)), some (.int (zi sy)), some (.int (zi nx)), some (.int (zi bt)), some (.int (zi zq13))]) (S2 := [.int (zi (z16 + zq13))]) rfl (by simp only [zi_add, zi_sub, zi_mul, zi_neg, zi_and1, zi_and7, zi_and15, zi_and31, zi_and255]) (by simp only [zi_add, zi_sub, zi_mul, zi_neg, zi_and1, zi_and7, zi_and15, zi_and31, zi_and255]) ?_
                refine gy_any (fun z17 ez17 az17 bz17 => ?_)
                refine gy_any (fun z18 ez18 az18 bz18 => ?_)
                refine gy_s 8 (pc' := 88) (L' := [some (.ref x), some (.int (zi e)), some (.int (zi en)), some (.int (zi zq1)), some (.int ((zi sy) + (zi zq13))), some (.int (zi z18)), some (.int (zi bt)), some (.int (zi zq13))]) (S' := [.int (zi bt), .int (zi 1), .int (zi z18)]) (L2 := [some (.ref x), some (.int (zi e)), some (.int (zi en)), some (.int (zi zq1)), some (.int (zi (sy + zq13))), some (.int (zi z18)), some (.int (zi bt)), some (.int (zi zq13))]) (S2 := [.int (zi bt), .int (zi 1), .int (zi z18)]) rfl (by simp only [zi_add, zi_sub, zi_mul, zi_neg, zi_and1, zi_and7, zi_and15, zi_and31, zi_and255]) (by simp only [zi_add, zi_sub, zi_mul, zi_neg, zi_and1, zi_and7, zi_and15, zi_and31, zi_and255]) ?_
                refine gy_sh1 rfl (by decide) (by omega) (fun z19 az19 bz19 cz19 => ?_)
                by_cases hc20 : (z18 : Int) ≤ z19
                · refine gy_icT (pc' := 94) rfl (by decide) (by decide) (by omega) (by omega) hc20 ?_
                  refine gy_s 2 (pc' := 47) (L' := [some (.ref x), some (.int (zi e)), some (.int (zi en)), some (.int (zi zq1)), some (.int (zi (sy + zq13))), some (.int (zi z18)), some (.int ((zi bt) + zi 1)), some (.int (zi zq13))]) (S' := []) (L2 := [some (.ref x), some (.int (zi e)), some (.int (zi en)), some (.int (zi zq1)), some (.int (zi (sy + zq13))), some (.int (zi z18)), some (.int (zi (bt + 1))), some (.int (zi zq13))]) (S2 := []) rfl (by simp only [zi_add, zi_sub, zi_mul, zi_neg, zi_and1, zi_and7, zi_and15, zi_and31, zi_and255]) (by simp only [zi_add, zi_sub, zi_mul, zi_neg, zi_and1, zi_and7, zi_and15, zi_and31, zi_and255]) ?_
                  exact gz_wk (ihlp8 hq13 (sy + zq13) z18 (bt + 1) (by omega) sq13 (by omega) (by omega) (by omega) (by omega) (by omega) s14 s15) (gLw.s (gLw.s (gLw.s (gLw.s (gLw.s (gLw.s (gLw.s (gLw.n gLw.z))))))))
                · refine gy_icF rfl (by decide) (by decide) (by omega) (by omega) hc20 ?_
                  refine gz_s 1 (pc' := 93) (L' := [some (.ref x), some (.int (zi e)), some (.int (zi en)), some (.int (zi zq1)), some (.int (zi (sy + zq13))), some (.int (zi z18)), some (.int (zi bt)), some (.int (zi zq13))]) (S' := [.int (zi (-1))]) rfl ?_
                  exact gz_end (I := .ireturn) (len := 1) rfl (Or.inl rfl) ⟨sq13, (-1), rfl, (by omega), (by omega), (by omega)⟩
          exact gz_wk (lp8 _ hq1 0 0 1 (Nat.lt_succ_self _) sq1 (by omega) (by omega) (by omega) (by omega) (by omega) s2 s3) (gLw.s (gLw.s (gLw.s (gLw.s (gLw.s (gLw.s (gLw.s (gLw.n gLw.z))))))))
        · refine gy_icF rfl (by decide) (by decide) (by omega) (by omega) hc7 ?_
          refine gz_s 1 (pc' := 37) (L' := [some (.ref x), some (.int (zi e)), some (.int (zi en)), some (.int (zi zq1)), none, none, none, none]) (S' := [.int (zi (-1))]) rfl ?_
          exact gz_end (I := .ireturn) (len := 1) rfl (Or.inl rfl) ⟨sq1, (-1), rfl, (by omega), (by omega), (by omega)⟩
set_option maxRecDepth 20000 in
set_option maxHeartbeats 4000000 in
theorem cl_Reader_readCodes (d : Nat) {ty : Nat → Nat} {h : gH} (hJ : gJ rT 1027 ty h) (x : Nat) (tx : ty x = 65) (f : Int) (rf : 0 ≤ f ∧ f ≤ 4100) (en : Int) (ren : 0 ≤ en ∧ en ≤ 4100) (src : Nat) (esrc : h.2.2.2.2 x 0 = .ref src) (tsrc : ty src = 51) (sc : Nat) (esc : h.2.2.2.2 x 2 = .ref sc) (tsc : ty sc = 66) (sz : Int) (esz : h.2.2.2.2 src 1 = .int (zi sz)) (rsz : 0 ≤ sz ∧ sz ≤ 2000) (uq : gUq ty) : gz gPP gGG gcn (d + 2) gt24 0 (gent [.ref x, .int (zi f), .int (zi en)] 8) [] h (fun q _ => gSs rT 1027 ty [102999, 103999] h q.2.2 ∧ ∃ z : Int, gfin gt24 q.1 q.2.1 = some (some (.int (zi z))) ∧ (-1) ≤ z ∧ z ≤ 4100 ∧ (z = -1 ∨ (f ≤ z ∧ z < en))) := by
  have hS : gSs rT 1027 ty [102999, 103999] h h := gSs.rf hJ
  refine gz_s 2 (pc' := 2) (L' := [some (.ref x), some (.int (zi f)), some (.int (zi en)), some (.int (zi f)), none, none, none, none]) (S' := []) rfl ?_
  have lp1 : ∀ (fu : Nat) (h2 : gH) (e : Int), (4300 - e).toNat < fu → gSs rT 1027 ty [102999, 103999] h h2 → (0 ≤ e ∧ e ≤ 4100) → (f ≤ e) → (e ≤ en ∨ e = f) → h2.2.2.2.2 x 0 = .ref src → h2.2.2.2.2 x 2 = .ref sc → h2.2.2.2.2 src 1 = .int (zi sz) → gz gPP gGG gcn (d + 2) gt24 2 [some (.ref x), some (.int (zi f)), some (.int (zi en)), some (.int (zi e)), none, none, none, none] [] h2 (fun q _ => gSs rT 1027 ty [102999, 103999] h q.2.2 ∧ ∃ z : Int, gfin gt24 q.1 q.2.1 = some (some (.int (zi z))) ∧ (-1) ≤ z ∧ z ≤ 4100 ∧ (z = -1 ∨ (f ≤ z ∧ z < en))) := by
    intro fu
    induction fu with
    | zero => intro h2 e hm; exact absurd hm (Nat.not_lt_zero _)
    | succ fu ihlp1 =>
      intro h2 e lp1m sh2 lp1f0 lp1f1 lp1f2 lp1k0 lp1k1 lp1k2
      refine gz_s 2 (pc' := 4) (L' := [some (.ref x), some (.int (zi f)), some (.int (zi en)), some (.int (zi e)), none, none, none, none]) (S' := [.int (zi en), .int (zi e)]) rfl ?_
      by_cases hc3 : (en : Int) ≤ e
      · refine gy_icT (pc' := 134) rfl (by decide) (by decide) (by omega) (by omega) hc3 ?_
        refine gz_s 1 (pc' := 135) (L' := [some (.ref x), some (.int (zi f)), some (.int (zi en)), some (.int (zi e)), none, none, none, none]) (S' := [.int (zi (-1))]) rfl ?_
        exact gz_end (I := .ireturn) (len := 1) rfl (Or.inl rfl) ⟨sh2, (-1), rfl, (by omega), (by omega), (by omega)⟩
      · refine gy_icF rfl (by decide) (by decide) (by omega) (by omega) hc3 ?_
        refine gz_s 3 (pc' := 10) (L' := [some (.ref x), some (.int (zi f)), some (.int (zi en)), some (.int (zi e)), none, none, none, none]) (S' := [.int (zi en), .int (zi e), .ref x]) rfl ?_
        refine gz_call rfl (by decide) rfl (by decide) (by decide) (gcal_of rfl rfl rfl (Nat.le_of_ble_eq_true rfl) (gJ.recv (G := gGG) sh2.1 tx rfl rfl)) (cl_Reader_countSymbols _ sh2.1 x tx e (by omega) en (by omega) src lp1k0 tsrc sz lp1k2 (by omega) uq) (fun q4 _ wq4 => ?_)
        obtain ⟨pq4, oq4, hq4⟩ := q4
        obtain ⟨xq4, zq4, gq4, aq4, bq4, uq4_0⟩ := wq4
        refine ⟨_, gq4, ?_⟩
        show gz gPP gGG gcn _ _ 13 [some (.ref x), some (.int (zi f)), some (.int (zi en)), some (.int (zi e)), none, none, none, none] [.int (zi zq4)] hq4 _
        have sq4 : gSs rT 1027 ty [102999, 103999] h hq4 := gSs.tr sh2 xq4 (by decide)
        have s5 := (xq4.2.2.2.2.2 x 0 (by rw [tx]; decide)).trans lp1k0
        have s6 := (xq4.2.2.2.2.2 x 2 (by rw [tx]; decide)).trans lp1k1
        have s7 := (xq4.2.2.2.2.2 src 1 (by rw [tsrc]; decide)).trans lp1k2
        refine gz_s 2 (pc' := 17) (L' := [some (.ref x), some (.int (zi f)), some (.int (zi en)), some (.int (zi e)), some (.int (zi zq4)), none, none, none]) (S' := [.int (zi zq4)]) rfl ?_
        by_cases hc8 : (0 : Int) ≤ zq4
        · refine gy_ifT (pc' := 22) rfl (by decide) (by decide) (by omega) hc8 ?_
          refine gz_s 1 (pc' := 23) (L' := [some (.ref x), some (.int (zi f)), some (.int (zi en)), some (.int (zi e)), some (.int (zi zq4)), none, none, none]) (S' := [.ref x]) rfl ?_
          refine gs_gtk rfl (by decide) rfl sq4.1 tx rfl rfl s5 ?_
          refine gz_s 1 (pc' := 27) (L' := [some (.ref x), some (.int (zi f)), some (.int (zi en)), some (.int (zi e)), some (.int (zi zq4)), none, none, none]) (S' := [.int (zi e), .ref src]) rfl ?_
          refine gz_call rfl (by decide) rfl (by decide) (by decide) (gcal_of rfl rfl rfl (Nat.le_of_ble_eq_true rfl) (gJ.recv (G := gGG) sq4.1 tsrc rfl rfl)) (cl_Collected_byteAt _ sq4.1 src tsrc e (by omega) sz s7 (by omega) uq) (fun q9 _ wq9 => ?_)
          obtain ⟨pq9, oq9, hq9⟩ := q9
          obtain ⟨xq9, zq9, gq9, aq9, bq9, uq9_0⟩ := wq9
          refine ⟨_, gq9, ?_⟩
          show gz gPP gGG gcn _ _ 30 [some (.ref x), some (.int (zi f)), some (.int (zi en)), some (.int (zi e)), some (.int (zi zq4)), none, none, none] [.int (zi zq9)] hq9 _
          have sq9 : gSs rT 1027 ty [102999, 103999] h hq9 := gSs.tr sq4 xq9 (by decide)
          have s10 := (xq9.2.2.2.2.2 x 0 (by rw [tx]; decide)).trans s5
          have s11 := (xq9.2.2.2.2.2 x 2 (by rw [tx]; decide)).trans s6
          have s12 := (xq9.2.2.2.2.2 src 1 (by rw [tsrc]; decide)).trans s7
          refine gz_s 2 (pc' := 33) (L' := [some (.ref x), some (.int (zi f)), some (.int (zi en)), some (.int (zi e)), some (.int (zi zq4)), some (.int (zi zq9)), none, none]) (S' := [.ref x]) rfl ?_
          refine gs_gtk rfl (by decide) rfl sq9.1 tx rfl rfl s11 ?_
          refine gz_s 2 (pc' := 39) (L' := [some (.ref x), some (.int (zi f)), some (.int (zi en)), some (.int (zi e)), some (.int (zi zq4)), some (.int (zi zq9)), none, none]) (S' := [.int (zi 4), .int (zi zq9), .ref sc]) rfl ?_
          refine gy_shc (n := 4) (v := 16) rfl (by decide) (by omega) (by decide) (by decide) rfl ?_
          refine gy_s 3 (pc' := 45) (L' := [some (.ref x), some (.int (zi f)), some (.int (zi en)), some (.int (zi e)), some (.int (zi zq4)), some (.int (zi zq9)), none, none]) (S' := [.int ((zi zq9) &&& (zi 15)), .int (zi (zq9 / 16)), .ref sc]) (L2 := [some (.ref x), some (.int (zi f)), some (.int (zi en)), some (.int (zi e)), some (.int (zi zq4)), some (.int (zi zq9)), none, none]) (S2 := [.int (zi (zq9 % 16)), .int (zi (zq9 / 16)), .ref sc]) rfl (by simp only [zi_add, zi_sub, zi_mul, zi_neg, zi_and1, zi_and7, zi_and15, zi_and31, zi_and255]) (by simp only [zi_add, zi_sub, zi_mul, zi_neg, zi_and1, zi_and7, zi_and15, zi_and31, zi_and255]) ?_
          refine gz_call rfl (by decide) rfl (by decide) (by decide) (gcal_of rfl rfl rfl (Nat.le_of_ble_eq_true rfl) (gJ.recv (G := gGG) sq9.1 tsc rfl rfl)) (cl_ScanReader_codesOf _ sq9.1 sc tsc (zq9 / 16) (by omega) (zq9 % 16) (by omega) uq) (fun q13 _ wq13 => ?_)
          obtain ⟨pq13, oq13, hq13⟩ := q13
          obtain ⟨xq13, zq13, gq13, tzq13⟩ := wq13
          refine ⟨_, gq13, ?_⟩
          show gz gPP gGG gcn _ _ 48 [some (.ref x), some (.int (zi f)), some (.int (zi en)), some (.int (zi e)), some (.int (zi zq4)), some (.int (zi zq9)), none, none] [.ref zq13] hq13 _
          have sq13 : gSs rT 1027 ty [102999, 103999] h hq13 := gSs.tr sq9 xq13 (by decide)
          have s14 := (xq13.2.2.2.2.2 x 0 (by rw [tx]; decide)).trans s10
          have s15 := (xq13.2.2.2.2.2 x 2 (by rw [tx]; decide)).trans s11
          have s16 := (xq13.2.2.2.2.2 src 1 (by rw [tsrc]; decide)).trans s12
          refine gz_s 3 (pc' := 53) (L' := [some (.ref x), some (.int (zi f)), some (.int (zi en)), some (.int (zi e)), some (.int (zi zq4)), some (.int (zi zq9)), some (.ref zq13), some (.int (zi 1))]) (S' := []) rfl ?_
          have lp17 : ∀ (fu : Nat) (h18 : gH) (i : Int), (18 - i).toNat < fu → gSs rT 1027 ty [102999, 103999] h h18 → (1 ≤ i ∧ i ≤ 17) → h18.2.2.2.2 x 0 = .ref src → h18.2.2.2.2 x 2 = .ref sc → h18.2.2.2.2 src 1 = .int (zi sz) → gz gPP gGG gcn (d + 2) gt24 53 [some (.ref x), some (.int (zi f)), some (.int (zi en)), some (.int (zi e)), some (.int (zi zq4)), some (.int (zi zq9)), some (.ref zq13), some (.int (zi i))] [] h18 (fun q _ => gSs rT 1027 ty [102999, 103999] h q.2.2 ∧ ∃ z : Int, gfin gt24 q.1 q.2.1 = some (some (.int (zi z))) ∧ (-1) ≤ z ∧ z ≤ 4100 ∧ (z = -1 ∨ (f ≤ z ∧ z < en))) := by
            intro fu
            induction fu with
            | zero => intro h18 i hm; exact absurd hm (Nat.not_lt_zero _)
            | succ fu ihlp17 =>
              intro h18 i lp17m sh18 lp17f0 lp17k0 lp17k1 lp17k2
              refine gz_s 2 (pc' := 57) (L' := [some (.ref x), some (.int (zi f)), some (.int (zi en)), some (.int (zi e)), some (.int (zi zq4)), some (.int (zi zq9)), some (.ref zq13), some (.int (zi i))]) (S' := [.int (zi 16), .int (zi i)]) rfl ?_
              by_cases hc19 : (16 : Int) < i
              · refine gy_icT (pc' := 85) rfl (by decide) (by decide) (by omega) (by omega) hc19 ?_
                refine gz_s 2 (pc' := 88) (L' := [some (.ref x), some (.int (zi f)), some (.int (zi en)), some (.int (zi e)), some (.int (zi zq4)), some (.int (zi zq9)), some (.ref zq13), some (.int (zi 0))]) (S' := []) rfl ?_
                have lp20 : ∀ (fu : Nat) (h21 : gH) (k : Int), (257 - k).toNat < fu → gSs rT 1027 ty [102999, 103999] h h21 → (0 ≤ k ∧ k ≤ 256) → h21.2.2.2.2 x 0 = .ref src → h21.2.2.2.2 x 2 = .ref sc → h21.2.2.2.2 src 1 = .int (zi sz) → gz gPP gGG gcn (d + 2) gt24 88 [some (.ref x), some (.int (zi f)), some (.int (zi en)), some (.int (zi e)), some (.int (zi zq4)), some (.int (zi zq9)), some (.ref zq13), some (.int (zi k))] [] h21 (fun q _ => gSs rT 1027 ty [102999, 103999] h q.2.2 ∧ ∃ z : Int, gfin gt24 q.1 q.2.1 = some (some (.int (zi z))) ∧ (-1) ≤ z ∧ z ≤ 4100 ∧ (z = -1 ∨ (f ≤ z ∧ z < en))) := by
                  intro fu
                  induction fu with
                  | zero => intro h21 k hm; exact absurd hm (Nat.not_lt_zero _)
                  | succ fu ihlp20 =>
                    intro h21 k lp20m sh21 lp20f0 lp20k0 lp20k1 lp20k2
                    refine gz_s 2 (pc' := 92) (L' := [some (.ref x), some (.int (zi f)), some (.int (zi en)), some (.int (zi e)), some (.int (zi zq4)), some (.int (zi zq9)), some (.ref zq13), some (.int (zi k))]) (S' := [.int (zi zq4), .int (zi k)]) rfl ?_
                    by_cases hc22 : (zq4 : Int) ≤ k
                    · refine gy_icT (pc' := 123) rfl (by decide) (by decide) (by omega) (by omega) hc22 ?_
                      refine gy_s 7 (pc' := 2) (L' := [some (.ref x), some (.int (zi f)), some (.int (zi en)), some (.int ((zi e) + ((zi 17) + (zi zq4)))), some (.int (zi zq4)), some (.int (zi zq9)), some (.ref zq13), some (.int (zi k))]) (S' := []) (L2 := [some (.ref x), some (.int (zi f)), some (.int (zi en)), some (.int (zi (e + (17 + zq4)))), some (.int (zi zq4)), some (.int (zi zq9)), some (.ref zq13), some (.int (zi k))]) (S2 := []) rfl (by simp only [zi_add, zi_sub, zi_mul, zi_neg, zi_and1, zi_and7, zi_and15, zi_and31, zi_and255]) (by simp only [zi_add, zi_sub, zi_mul, zi_neg, zi_and1, zi_and7, zi_and15, zi_and31, zi_and255]) ?_
                      exact gz_wk (ihlp1 h21 (e + (17 + zq4)) (by omega) sh21 (by omega) (by omega) (by omega) lp20k0 lp20k1 lp20k2) (gLw.s (gLw.s (gLw.s (gLw.s (gLw.n (gLw.n (gLw.n (gLw.n gLw.z))))))))
                    · refine gy_icF rfl (by decide) (by decide) (by omega) (by omega) hc22 ?_
                      refine gz_s 1 (pc' := 97) (L' := [some (.ref x), some (.int (zi f)), some (.int (zi en)), some (.int (zi e)), some (.int (zi zq4)), some (.int (zi zq9)), some (.ref zq13), some (.int (zi k))]) (S' := [.ref zq13]) rfl ?_
                      refine gs_gtr rfl (by decide) rfl sh21.1 tzq13 rfl rfl rfl (fun c23 ec23 tc23 => ?_)
                      refine gz_s 2 (pc' := 103) (L' := [some (.ref x), some (.int (zi f)), some (.int (zi en)), some (.int (zi e)), some (.int (zi zq4)), some (.int (zi zq9)), some (.ref zq13), some (.int (zi k))]) (S' := [.ref x, .int (zi k), .ref c23]) rfl ?_
                      refine gs_gtk rfl (by decide) rfl sh21.1 tx rfl rfl lp20k0 ?_
                      refine gy_s 5 (pc' := 113) (L' := [some (.ref x), some (.int (zi f)), some (.int (zi en)), some (.int (zi e)), some (.int (zi zq4)), some (.int (zi zq9)), some (.ref zq13), some (.int (zi k))]) (S' := [.int (((zi e) + (zi 17)) + (zi k)), .ref src, .int (zi k), .ref c23]) (L2 := [some (.ref x), some (.int (zi f)), some (.int (zi en)), some (.int (zi e)), some (.int (zi zq4)), some (.int (zi zq9)), some (.ref zq13), some (.int (zi k))]) (S2 := [.int (zi ((e + 17) + k)), .ref src, .int (zi k), .ref c23]) rfl (by simp only [zi_add, zi_sub, zi_mul, zi_neg, zi_and1, zi_and7, zi_and15, zi_and31, zi_and255]) (by simp only [zi_add, zi_sub, zi_mul, zi_neg, zi_and1, zi_and7, zi_and15, zi_and31, zi_and255]) ?_
                      refine gz_call rfl (by decide) rfl (by decide) (by decide) (gcal_of rfl rfl rfl (Nat.le_of_ble_eq_true rfl) (gJ.recv (G := gGG) sh21.1 tsrc rfl rfl)) (cl_Collected_byteAt _ sh21.1 src tsrc ((e + 17) + k) (by omega) sz lp20k2 (by omega) uq) (fun q24 _ wq24 => ?_)
                      obtain ⟨pq24, oq24, hq24⟩ := q24
                      obtain ⟨xq24, zq24, gq24, aq24, bq24, uq24_0⟩ := wq24
                      refine ⟨_, gq24, ?_⟩
                      show gz gPP gGG gcn _ _ 116 [some (.ref x), some (.int (zi f)), some (.int (zi en)), some (.int (zi e)), some (.int (zi zq4)), some (.int (zi zq9)), some (.ref zq13), some (.int (zi k))] [.int (zi zq24), .int (zi k), .ref c23] hq24 _
                      have sq24 : gSs rT 1027 ty [102999, 103999] h hq24 := gSs.tr sh21 xq24 (by decide)
                      have s25 := (xq24.2.2.2.2.2 x 0 (by rw [tx]; decide)).trans lp20k0
                      have s26 := (xq24.2.2.2.2.2 x 2 (by rw [tx]; decide)).trans lp20k1
                      have s27 := (xq24.2.2.2.2.2 src 1 (by rw [tsrc]; decide)).trans lp20k2
                      have s28 := (xq24.2.2.2.2.2 zq13 1 (by rw [tzq13]; decide)).trans ec23
                      have hl29 : 256 ≤ hq24.2.2.2.1 c23 ∧ hq24.2.2.2.1 c23 ≤ 256 := gJ.rowl (G := gGG) sq24.1 tc23 rfl
                      refine gs_ast rfl (by decide) sq24 tc23 rfl rfl rfl (by decide) (fun _ => rfl) (by omega) (by omega) (fun _ => (by decide : (103999 : Nat) ∈ ([102999, 103999] : List Nat))) (by omega) (by omega) (fun h30 sh30 eh30 fh30 => ?_)
                      have s31 := (fh30 x 0 (fun q => absurd (((tx).symm.trans (congrArg ty q.1)).trans tc23) (by decide))).trans s25
                      have s32 := (fh30 x 2 (fun q => absurd (((tx).symm.trans (congrArg ty q.1)).trans tc23) (by decide))).trans s26
                      have s33 := (fh30 src 1 (fun q => absurd (((tsrc).symm.trans (congrArg ty q.1)).trans tc23) (by decide))).trans s27
                      have s34 := (fh30 zq13 1 (fun q => absurd (((tzq13).symm.trans (congrArg ty q.1)).trans tc23) (by decide))).trans s28
                      refine gy_s 2 (pc' := 88) (L' := [some (.ref x), some (.int (zi f)), some (.int (zi en)), some (.int (zi e)), some (.int (zi zq4)), some (.int (zi zq9)), some (.ref zq13), some (.int ((zi k) + zi 1))]) (S' := []) (L2 := [some (.ref x), some (.int (zi f)), some (.int (zi en)), some (.int (zi e)), some (.int (zi zq4)), some (.int (zi zq9)), some (.ref zq13), some (.int (zi (k + 1)))]) (S2 := []) rfl (by simp only [zi_add, zi_sub, zi_mul, zi_neg, zi_and1, zi_and7, zi_and15, zi_and31, zi_and255]) (by simp only [zi_add, zi_sub, zi_mul, zi_neg, zi_and1, zi_and7, zi_and15, zi_and31, zi_and255]) ?_
                      exact gz_wk (ihlp20 h30 (k + 1) (by omega) sh30 (by omega) s31 s32 s33) (gLw.s (gLw.s (gLw.s (gLw.s (gLw.s (gLw.s (gLw.s (gLw.s gLw.z))))))))
                exact gz_wk (lp20 _ h18 0 (Nat.lt_succ_self _) sh18 (by omega) lp17k0 lp17k1 lp17k2) (gLw.s (gLw.s (gLw.s (gLw.s (gLw.s (gLw.s (gLw.s (gLw.s gLw.z))))))))
              · refine gy_icF rfl (by decide) (by decide) (by omega) (by omega) hc19 ?_
                refine gz_s 1 (pc' := 62) (L' := [some (.ref x), some (.int (zi f)), some (.int (zi en)), some (.int (zi e)), some (.int (zi zq4)), some (.int (zi zq9)), some (.ref zq13), some (.int (zi i))]) (S' := [.ref zq13]) rfl ?_
                refine gs_gtr rfl (by decide) rfl sh18.1 tzq13 rfl rfl rfl (fun c35 ec35 tc35 => ?_)
                refine gz_s 2 (pc' := 68) (L' := [some (.ref x), some (.int (zi f)), some (.int (zi en)), some (.int (zi e)), some (.int (zi zq4)), some (.int (zi zq9)), some (.ref zq13), some (.int (zi i))]) (S' := [.ref x, .int (zi i), .ref c35]) rfl ?_
                refine gs_gtk rfl (by decide) rfl sh18.1 tx rfl rfl lp17k0 ?_
                refine gy_s 3 (pc' := 75) (L' := [some (.ref x), some (.int (zi f)), some (.int (zi en)), some (.int (zi e)), some (.int (zi zq4)), some (.int (zi zq9)), some (.ref zq13), some (.int (zi i))]) (S' := [.int ((zi e) + (zi i)), .ref src, .int (zi i), .ref c35]) (L2 := [some (.ref x), some (.int (zi f)), some (.int (zi en)), some (.int (zi e)), some (.int (zi zq4)), some (.int (zi zq9)), some (.ref zq13), some (.int (zi i))]) (S2 := [.int (zi (e + i)), .ref src, .int (zi i), .ref c35]) rfl (by simp only [zi_add, zi_sub, zi_mul, zi_neg, zi_and1, zi_and7, zi_and15, zi_and31, zi_and255]) (by simp only [zi_add, zi_sub, zi_mul, zi_neg, zi_and1, zi_and7, zi_and15, zi_and31, zi_and255]) ?_
                refine gz_call rfl (by decide) rfl (by decide) (by decide) (gcal_of rfl rfl rfl (Nat.le_of_ble_eq_true rfl) (gJ.recv (G := gGG) sh18.1 tsrc rfl rfl)) (cl_Collected_byteAt _ sh18.1 src tsrc (e + i) (by omega) sz lp17k2 (by omega) uq) (fun q36 _ wq36 => ?_)
                obtain ⟨pq36, oq36, hq36⟩ := q36
                obtain ⟨xq36, zq36, gq36, aq36, bq36, uq36_0⟩ := wq36
                refine ⟨_, gq36, ?_⟩
                show gz gPP gGG gcn _ _ 78 [some (.ref x), some (.int (zi f)), some (.int (zi en)), some (.int (zi e)), some (.int (zi zq4)), some (.int (zi zq9)), some (.ref zq13), some (.int (zi i))] [.int (zi zq36), .int (zi i), .ref c35] hq36 _
                have sq36 : gSs rT 1027 ty [102999, 103999] h hq36 := gSs.tr sh18 xq36 (by decide)
                have s37 := (xq36.2.2.2.2.2 x 0 (by rw [tx]; decide)).trans lp17k0
                have s38 := (xq36.2.2.2.2.2 x 2 (by rw [tx]; decide)).trans lp17k1
                have s39 := (xq36.2.2.2.2.2 src 1 (by rw [tsrc]; decide)).trans lp17k2
                have s40 := (xq36.2.2.2.2.2 zq13 0 (by rw [tzq13]; decide)).trans ec35
                have hl41 : 17 ≤ hq36.2.2.2.1 c35 ∧ hq36.2.2.2.1 c35 ≤ 17 := gJ.rowl (G := gGG) sq36.1 tc35 rfl
                refine gs_ast rfl (by decide) sq36 tc35 rfl rfl rfl (by decide) (fun _ => rfl) (by omega) (by omega) (fun _ => (by decide : (102999 : Nat) ∈ ([102999, 103999] : List Nat))) (by omega) (by omega) (fun h42 sh42 eh42 fh42 => ?_)
                have s43 := (fh42 x 0 (fun q => absurd (((tx).symm.trans (congrArg ty q.1)).trans tc35) (by decide))).trans s37
                have s44 := (fh42 x 2 (fun q => absurd (((tx).symm.trans (congrArg ty q.1)).trans tc35) (by decide))).trans s38
                have s45 := (fh42 src 1 (fun q => absurd (((tsrc).symm.trans (congrArg ty q.1)).trans tc35) (by decide))).trans s39
                have s46 := (fh42 zq13 0 (fun q => absurd (((tzq13).symm.trans (congrArg ty q.1)).trans tc35) (by decide))).trans s40
                refine gy_s 2 (pc' := 53) (L' := [some (.ref x), some (.int (zi f)), some (.int (zi en)), some (.int (zi e)), some (.int (zi zq4)), some (.int (zi zq9)), some (.ref zq13), some (.int ((zi i) + zi 1))]) (S' := []) (L2 := [some (.ref x), some (.int (zi f)), some (.int (zi en)), some (.int (zi e)), some (.int (zi zq4)), some (.int (zi zq9)), some (.ref zq13), some (.int (zi (i + 1)))]) (S2 := []) rfl (by simp only [zi_add, zi_sub, zi_mul, zi_neg, zi_and1, zi_and7, zi_and15, zi_and31, zi_and255]) (by simp only [zi_add, zi_sub, zi_mul, zi_neg, zi_and1, zi_and7, zi_and15, zi_and31, zi_and255]) ?_
                exact gz_wk (ihlp17 h42 (i + 1) (by omega) sh42 (by omega) s43 s44 s45) (gLw.s (gLw.s (gLw.s (gLw.s (gLw.s (gLw.s (gLw.s (gLw.s gLw.z))))))))
          exact gz_wk (lp17 _ hq13 1 (Nat.lt_succ_self _) sq13 (by omega) s14 s15 s16) (gLw.s (gLw.s (gLw.s (gLw.s (gLw.s (gLw.s (gLw.s (gLw.s gLw.z))))))))
        · refine gy_ifF rfl (by decide) (by decide) (by omega) hc8 ?_
          refine gz_s 1 (pc' := 21) (L' := [some (.ref x), some (.int (zi f)), some (.int (zi en)), some (.int (zi e)), some (.int (zi zq4)), none, none, none]) (S' := [.int (zi e)]) rfl ?_
          exact gz_end (I := .ireturn) (len := 1) rfl (Or.inl rfl) ⟨sq4, e, rfl, (by omega), (by omega), (by omega)⟩
  exact gz_wk (lp1 _ h f (Nat.lt_succ_self _) hS (by omega) (by omega) (by omega) esrc esc esz) (gLw.s (gLw.s (gLw.s (gLw.s (gLw.n (gLw.n (gLw.n (gLw.n gLw.z))))))))
set_option maxRecDepth 20000 in
set_option maxHeartbeats 4000000 in
theorem cl_Reader_readInterval (d : Nat) {ty : Nat → Nat} {h : gH} (hJ : gJ rT 1027 ty h) (x : Nat) (tx : ty x = 65) (a : Int) (ra : 0 ≤ a ∧ a ≤ 4100) (n : Int) (rn : 0 ≤ n ∧ n ≤ 65535) (src : Nat) (esrc : h.2.2.2.2 x 0 = .ref src) (tsrc : ty src = 51) (sc : Nat) (esc : h.2.2.2.2 x 2 = .ref sc) (tsc : ty sc = 66) (sz : Int) (esz : h.2.2.2.2 src 1 = .int (zi sz)) (rsz : 0 ≤ sz ∧ sz ≤ 2000) (uq : gUq ty) : gz gPP gGG gcn (d + 2) gt27 0 (gent [.ref x, .int (zi a), .int (zi n)] 3) [] h (fun q _ => gSs rT 1027 ty [66001] h q.2.2 ∧ ∃ z : Int, gfin gt27 q.1 q.2.1 = some (some (.int (zi z))) ∧ (-1) ≤ z ∧ z ≤ 4100 ∧ (z = -1 ∨ z = a)) := by
  have hS : gSs rT 1027 ty [66001] h h := gSs.rf hJ
  refine gz_s 2 (pc' := 2) (L' := [some (.ref x), some (.int (zi a)), some (.int (zi n))]) (S' := [.int (zi 4), .int (zi n)]) rfl ?_
  by_cases hc1 : (n : Int) = 4
  · refine gy_icT (pc' := 7) rfl (by decide) (by decide) (by omega) (by omega) hc1 ?_
    refine gz_s 1 (pc' := 8) (L' := [some (.ref x), some (.int (zi a)), some (.int (zi n))]) (S' := [.ref x]) rfl ?_
    refine gs_gtk rfl (by decide) rfl hS.1 tx rfl rfl esc ?_
    refine gz_s 1 (pc' := 12) (L' := [some (.ref x), some (.int (zi a)), some (.int (zi n))]) (S' := [.ref x, .ref sc]) rfl ?_
    refine gs_gtk rfl (by decide) rfl hS.1 tx rfl rfl esrc ?_
    refine gy_s 3 (pc' := 18) (L' := [some (.ref x), some (.int (zi a)), some (.int (zi n))]) (S' := [.int ((zi a) + (zi 2)), .ref src, .ref sc]) (L2 := [some (.ref x), some (.int (zi a)), some (.int (zi n))]) (S2 := [.int (zi (a + 2)), .ref src, .ref sc]) rfl (by simp only [zi_add, zi_sub, zi_mul, zi_neg, zi_and1, zi_and7, zi_and15, zi_and31, zi_and255]) (by simp only [zi_add, zi_sub, zi_mul, zi_neg, zi_and1, zi_and7, zi_and15, zi_and31, zi_and255]) ?_
    refine gz_call rfl (by decide) rfl (by decide) (by decide) (gcal_of rfl rfl rfl (Nat.le_of_ble_eq_true rfl) (gJ.recv (G := gGG) hS.1 tsrc rfl rfl)) (cl_Collected_twoAt _ hS.1 src tsrc (a + 2) (by omega) sz esz (by omega) uq) (fun q2 _ wq2 => ?_)
    obtain ⟨pq2, oq2, hq2⟩ := q2
    obtain ⟨xq2, zq2, gq2, aq2, bq2, uq2_0⟩ := wq2
    refine ⟨_, gq2, ?_⟩
    show gz gPP gGG gcn _ _ 21 [some (.ref x), some (.int (zi a)), some (.int (zi n))] [.int (zi zq2), .ref sc] hq2 _
    have sq2 : gSs rT 1027 ty [66001] h hq2 := gSs.tr hS xq2 (by decide)
    have s3 := (xq2.2.2.2.2.2 x 0 (by rw [tx]; decide)).trans esrc
    have s4 := (xq2.2.2.2.2.2 x 2 (by rw [tx]; decide)).trans esc
    have s5 := (xq2.2.2.2.2.2 src 1 (by rw [tsrc]; decide)).trans esz
    refine gs_put rfl (by decide) rfl sq2 tsc rfl rfl rfl rfl (Or.inl rfl) (by decide) (by omega) (by omega) (fun h6 sh6 eh6 fh6 => ?_)
    have s7 := (fh6 x 0 (fun q => absurd q.2 (by decide))).trans s3
    have s8 := (fh6 x 2 (fun q => absurd q.2 (by decide))).trans s4
    have s9 := (fh6 src 1 (fun q => absurd (((tsrc).symm.trans (congrArg ty q.1)).trans tsc) (by decide))).trans s5
    refine gz_s 1 (pc' := 25) (L' := [some (.ref x), some (.int (zi a)), some (.int (zi n))]) (S' := [.int (zi (-1))]) rfl ?_
    exact gz_end (I := .ireturn) (len := 1) rfl (Or.inl rfl) ⟨sh6, (-1), rfl, (by omega), (by omega), (by omega)⟩
  · refine gy_icF rfl (by decide) (by decide) (by omega) (by omega) hc1 ?_
    refine gz_s 1 (pc' := 6) (L' := [some (.ref x), some (.int (zi a)), some (.int (zi n))]) (S' := [.int (zi a)]) rfl ?_
    exact gz_end (I := .ireturn) (len := 1) rfl (Or.inl rfl) ⟨hS, a, rfl, (by omega), (by omega), (by omega)⟩
set_option maxRecDepth 20000 in
set_option maxHeartbeats 4000000 in
theorem cl_Reader_heightBehind (d : Nat) {ty : Nat → Nat} {h : gH} (hJ : gJ rT 1027 ty h) (x : Nat) (tx : ty x = 65) (f : Int) (rf : 0 ≤ f ∧ f ≤ 4100) (src : Nat) (esrc : h.2.2.2.2 x 0 = .ref src) (tsrc : ty src = 51) (sz : Int) (esz : h.2.2.2.2 src 1 = .int (zi sz)) (rsz : 0 ≤ sz ∧ sz ≤ 2000) (uq : gUq ty) : gz gPP gGG gcn (d + 2) gt29 0 (gent [.ref x, .int (zi f)] 3) [] h (fun q _ => gSs rT 1027 ty [] h q.2.2 ∧ ∃ z : Int, gfin gt29 q.1 q.2.1 = some (some (.int (zi z))) ∧ (-1) ≤ z ∧ z ≤ 65535) := by
  have hS : gSs rT 1027 ty [] h h := gSs.rf hJ
  refine gz_s 2 (pc' := 2) (L' := [some (.ref x), some (.int (zi f)), some (.int (zi f))]) (S' := []) rfl ?_
  have lp1 : ∀ (fu : Nat) (h2 : gH) (i : Int), (4200 - i).toNat < fu → gSs rT 1027 ty [] h h2 → (0 ≤ i ∧ i ≤ 4101) → h2.2.2.2.2 x 0 = .ref src → h2.2.2.2.2 src 1 = .int (zi sz) → gz gPP gGG gcn (d + 2) gt29 2 [some (.ref x), some (.int (zi f)), some (.int (zi i))] [] h2 (fun q _ => gSs rT 1027 ty [] h q.2.2 ∧ ∃ z : Int, gfin gt29 q.1 q.2.1 = some (some (.int (zi z))) ∧ (-1) ≤ z ∧ z ≤ 65535) := by
    intro fu
    induction fu with
    | zero => intro h2 i hm; exact absurd hm (Nat.not_lt_zero _)
    | succ fu ihlp1 =>
      intro h2 i lp1m sh2 lp1f0 lp1k0 lp1k1
      refine gy_s 4 (pc' := 7) (L' := [some (.ref x), some (.int (zi f)), some (.int (zi i))]) (S' := [.ref x, .int ((zi i) + (zi 6))]) (L2 := [some (.ref x), some (.int (zi f)), some (.int (zi i))]) (S2 := [.ref x, .int (zi (i + 6))]) rfl (by simp only [zi_add, zi_sub, zi_mul, zi_neg, zi_and1, zi_and7, zi_and15, zi_and31, zi_and255]) (by simp only [zi_add, zi_sub, zi_mul, zi_neg, zi_and1, zi_and7, zi_and15, zi_and31, zi_and255]) ?_
      refine gs_gtk rfl (by decide) rfl sh2.1 tx rfl rfl lp1k0 ?_
      refine gs_gtk rfl (by decide) rfl sh2.1 tsrc rfl rfl lp1k1 ?_
      by_cases hc3 : (sz : Int) < i + 6
      · refine gy_icT (pc' := 60) rfl (by decide) (by decide) (by omega) (by omega) hc3 ?_
        refine gz_s 1 (pc' := 61) (L' := [some (.ref x), some (.int (zi f)), some (.int (zi i))]) (S' := [.int (zi 0)]) rfl ?_
        exact gz_end (I := .ireturn) (len := 1) rfl (Or.inl rfl) ⟨sh2, 0, rfl, (by omega), (by omega)⟩
      · refine gy_icF rfl (by decide) (by decide) (by omega) (by omega) hc3 ?_
        refine gz_s 1 (pc' := 17) (L' := [some (.ref x), some (.int (zi f)), some (.int (zi i))]) (S' := [.ref x]) rfl ?_
        refine gs_gtk rfl (by decide) rfl sh2.1 tx rfl rfl lp1k0 ?_
        refine gz_s 1 (pc' := 21) (L' := [some (.ref x), some (.int (zi f)), some (.int (zi i))]) (S' := [.int (zi i), .ref src]) rfl ?_
        refine gz_call rfl (by decide) rfl (by decide) (by decide) (gcal_of rfl rfl rfl (Nat.le_of_ble_eq_true rfl) (gJ.recv (G := gGG) sh2.1 tsrc rfl rfl)) (cl_Collected_twoAt _ sh2.1 src tsrc i (by omega) sz lp1k1 (by omega) uq) (fun q4 _ wq4 => ?_)
        obtain ⟨pq4, oq4, hq4⟩ := q4
        obtain ⟨xq4, zq4, gq4, aq4, bq4, uq4_0⟩ := wq4
        refine ⟨_, gq4, ?_⟩
        show gz gPP gGG gcn _ _ 24 [some (.ref x), some (.int (zi f)), some (.int (zi i))] [.int (zi zq4)] hq4 _
        have sq4 : gSs rT 1027 ty [] h hq4 := gSs.tr sh2 xq4 (by decide)
        have s5 := (xq4.2.2.2.2.2 x 0 (by rw [tx]; decide)).trans lp1k0
        have s6 := (xq4.2.2.2.2.2 src 1 (by rw [tsrc]; decide)).trans lp1k1
        refine gz_1 rfl (by decide) rfl rfl (pc' := 26) (S' := [.int (zi 65500), .int (zi zq4)]) (h' := hq4) rfl ?_
        by_cases hc7 : ¬ (zq4 : Int) = 65500
        · refine gy_icT (pc' := 54) rfl (by decide) (by decide) (by omega) (by omega) hc7 ?_
          refine gy_s 2 (pc' := 2) (L' := [some (.ref x), some (.int (zi f)), some (.int ((zi i) + zi 1))]) (S' := []) (L2 := [some (.ref x), some (.int (zi f)), some (.int (zi (i + 1)))]) (S2 := []) rfl (by simp only [zi_add, zi_sub, zi_mul, zi_neg, zi_and1, zi_and7, zi_and15, zi_and31, zi_and255]) (by simp only [zi_add, zi_sub, zi_mul, zi_neg, zi_and1, zi_and7, zi_and15, zi_and31, zi_and255]) ?_
          exact gz_wk (ihlp1 hq4 (i + 1) (by omega) sq4 (by omega) s5 s6) (gLw.s (gLw.s (gLw.s gLw.z)))
        · refine gy_icF rfl (by decide) (by decide) (by omega) (by omega) hc7 ?_
          refine gz_s 1 (pc' := 30) (L' := [some (.ref x), some (.int (zi f)), some (.int (zi i))]) (S' := [.ref x]) rfl ?_
          refine gs_gtk rfl (by decide) rfl sq4.1 tx rfl rfl s5 ?_
          refine gy_s 3 (pc' := 36) (L' := [some (.ref x), some (.int (zi f)), some (.int (zi i))]) (S' := [.int ((zi i) + (zi 2)), .ref src]) (L2 := [some (.ref x), some (.int (zi f)), some (.int (zi i))]) (S2 := [.int (zi (i + 2)), .ref src]) rfl (by simp only [zi_add, zi_sub, zi_mul, zi_neg, zi_and1, zi_and7, zi_and15, zi_and31, zi_and255]) (by simp only [zi_add, zi_sub, zi_mul, zi_neg, zi_and1, zi_and7, zi_and15, zi_and31, zi_and255]) ?_
          refine gz_call rfl (by decide) rfl (by decide) (by decide) (gcal_of rfl rfl rfl (Nat.le_of_ble_eq_true rfl) (gJ.recv (G := gGG) sq4.1 tsrc rfl rfl)) (cl_Collected_twoAt _ sq4.1 src tsrc (i + 2) (by omega) sz s6 (by omega) uq) (fun q8 _ wq8 => ?_)
          obtain ⟨pq8, oq8, hq8⟩ := q8
          obtain ⟨xq8, zq8, gq8, aq8, bq8, uq8_0⟩ := wq8
          refine ⟨_, gq8, ?_⟩
          show gz gPP gGG gcn _ _ 39 [some (.ref x), some (.int (zi f)), some (.int (zi i))] [.int (zi zq8)] hq8 _
          have sq8 : gSs rT 1027 ty [] h hq8 := gSs.tr sq4 xq8 (by decide)
          have s9 := (xq8.2.2.2.2.2 x 0 (by rw [tx]; decide)).trans s5
          have s10 := (xq8.2.2.2.2.2 src 1 (by rw [tsrc]; decide)).trans s6
          refine gz_s 1 (pc' := 40) (L' := [some (.ref x), some (.int (zi f)), some (.int (zi i))]) (S' := [.int (zi 4), .int (zi zq8)]) rfl ?_
          by_cases hc11 : ¬ (zq8 : Int) = 4
          · refine gy_icT (pc' := 54) rfl (by decide) (by decide) (by omega) (by omega) hc11 ?_
            refine gy_s 2 (pc' := 2) (L' := [some (.ref x), some (.int (zi f)), some (.int ((zi i) + zi 1))]) (S' := []) (L2 := [some (.ref x), some (.int (zi f)), some (.int (zi (i + 1)))]) (S2 := []) rfl (by simp only [zi_add, zi_sub, zi_mul, zi_neg, zi_and1, zi_and7, zi_and15, zi_and31, zi_and255]) (by simp only [zi_add, zi_sub, zi_mul, zi_neg, zi_and1, zi_and7, zi_and15, zi_and31, zi_and255]) ?_
            exact gz_wk (ihlp1 hq8 (i + 1) (by omega) sq8 (by omega) s9 s10) (gLw.s (gLw.s (gLw.s gLw.z)))
          · refine gy_icF rfl (by decide) (by decide) (by omega) (by omega) hc11 ?_
            refine gz_s 1 (pc' := 44) (L' := [some (.ref x), some (.int (zi f)), some (.int (zi i))]) (S' := [.ref x]) rfl ?_
            refine gs_gtk rfl (by decide) rfl sq8.1 tx rfl rfl s9 ?_
            refine gy_s 3 (pc' := 50) (L' := [some (.ref x), some (.int (zi f)), some (.int (zi i))]) (S' := [.int ((zi i) + (zi 4)), .ref src]) (L2 := [some (.ref x), some (.int (zi f)), some (.int (zi i))]) (S2 := [.int (zi (i + 4)), .ref src]) rfl (by simp only [zi_add, zi_sub, zi_mul, zi_neg, zi_and1, zi_and7, zi_and15, zi_and31, zi_and255]) (by simp only [zi_add, zi_sub, zi_mul, zi_neg, zi_and1, zi_and7, zi_and15, zi_and31, zi_and255]) ?_
            refine gz_call rfl (by decide) rfl (by decide) (by decide) (gcal_of rfl rfl rfl (Nat.le_of_ble_eq_true rfl) (gJ.recv (G := gGG) sq8.1 tsrc rfl rfl)) (cl_Collected_twoAt _ sq8.1 src tsrc (i + 4) (by omega) sz s10 (by omega) uq) (fun q12 _ wq12 => ?_)
            obtain ⟨pq12, oq12, hq12⟩ := q12
            obtain ⟨xq12, zq12, gq12, aq12, bq12, uq12_0⟩ := wq12
            refine ⟨_, gq12, ?_⟩
            show gz gPP gGG gcn _ _ 53 [some (.ref x), some (.int (zi f)), some (.int (zi i))] [.int (zi zq12)] hq12 _
            have sq12 : gSs rT 1027 ty [] h hq12 := gSs.tr sq8 xq12 (by decide)
            have s13 := (xq12.2.2.2.2.2 x 0 (by rw [tx]; decide)).trans s9
            have s14 := (xq12.2.2.2.2.2 src 1 (by rw [tsrc]; decide)).trans s10
            exact gz_end (I := .ireturn) (len := 1) rfl (Or.inl rfl) ⟨sq12, zq12, rfl, (by omega), (by omega)⟩
  exact gz_wk (lp1 _ h f (Nat.lt_succ_self _) hS (by omega) esrc esz) (gLw.s (gLw.s (gLw.s gLw.z)))
set_option maxRecDepth 20000 in
set_option maxHeartbeats 4000000 in
theorem cl_readBand0 (d : Nat) {ty : Nat → Nat} {h : gH} (hJ : gJ rT 1027 ty h) (x : Nat) (tx : ty x = 65) (n : Int) (rn : 0 ≤ n ∧ n ≤ 0) (a : Int) (ra : 0 ≤ a ∧ a ≤ 4100) (src : Nat) (esrc : h.2.2.2.2 x 0 = .ref src) (tsrc : ty src = 51) (pic : Nat) (epic : h.2.2.2.2 x 1 = .ref pic) (tpic : ty pic = 54) (bn : Nat) (ebn : h.2.2.2.2 pic 0 = .ref bn) (tbn : ty bn = 57) (b0 : Nat) (eb0 : h.2.2.2.2 bn 0 = .ref b0) (tb0 : ty b0 = 82) (sz : Int) (esz : h.2.2.2.2 src 1 = .int (zi sz)) (rsz : 0 ≤ sz ∧ sz ≤ 2000) (uq : gUq ty) : gz gPP gGG gcn (d + 1) gt30 0 (gent [.ref x, .int (zi n), .int (zi a)] 5) [] h (fun q _ => gSs rT 1027 ty [82000, 82001, 82002, 82003] h q.2.2 ∧ ∃ z hb vb tb : Int, gfin gt30 q.1 q.2.1 = some (some (.int (zi z))) ∧ (-1) ≤ z ∧ z ≤ 4200 ∧ q.2.2.2.2.2.2 b0 1 = .int (zi hb) ∧ (-1) ≤ hb ∧ hb ≤ 15 ∧ q.2.2.2.2.2.2 b0 2 = .int (zi vb) ∧ 0 ≤ vb ∧ vb ≤ 15 ∧ q.2.2.2.2.2.2 b0 3 = .int (zi tb) ∧ (-1) ≤ tb ∧ tb ≤ 255 ∧ (z = -1 → (1 ≤ hb ∧ hb ≤ 2 ∧ 1 ≤ vb ∧ vb ≤ 2 ∧ 0 ≤ tb ∧ tb ≤ 3))) := by
  have hS : gSs rT 1027 ty [82000, 82001, 82002, 82003] h h := gSs.rf hJ
  refine gz_s 1 (pc' := 1) (L' := [some (.ref x), some (.int (zi n)), some (.int (zi a)), none, none]) (S' := [.ref x]) rfl ?_
  refine gs_gtk rfl (by decide) rfl hS.1 tx rfl rfl epic ?_
  refine gs_gtk rfl (by decide) rfl hS.1 tpic rfl rfl ebn ?_
  refine gz_s 1 (pc' := 8) (L' := [some (.ref x), some (.int (zi n)), some (.int (zi a)), none, none]) (S' := [.int (zi n), .ref bn]) rfl ?_
  have he3 : (n : Int) = 0 := by omega
  refine gs_aak (j := 0) rfl (by decide) hS.1 tbn rfl rfl rfl (by decide) he3 (by decide) eb0 ?_
  refine gz_s 3 (pc' := 12) (L' := [some (.ref x), some (.int (zi n)), some (.int (zi a)), some (.ref b0), none]) (S' := [.ref x, .ref b0]) rfl ?_
  refine gs_gtk rfl (by decide) rfl hS.1 tx rfl rfl esrc ?_
  refine gz_s 1 (pc' := 16) (L' := [some (.ref x), some (.int (zi n)), some (.int (zi a)), some (.ref b0), none]) (S' := [.int (zi a), .ref src, .ref b0]) rfl ?_
  refine gz_call rfl (by decide) rfl (by decide) (by decide) (gcal_of rfl rfl rfl (Nat.le_of_ble_eq_true rfl) (gJ.recv (G := gGG) hS.1 tsrc rfl rfl)) (cl_Collected_byteAt _ hS.1 src tsrc a (by omega) sz esz (by omega) uq) (fun q4 _ wq4 => ?_)
  obtain ⟨pq4, oq4, hq4⟩ := q4
  obtain ⟨xq4, zq4, gq4, aq4, bq4, uq4_0⟩ := wq4
  refine ⟨_, gq4, ?_⟩
  show gz gPP gGG gcn _ _ 19 [some (.ref x), some (.int (zi n)), some (.int (zi a)), some (.ref b0), none] [.int (zi zq4), .ref b0] hq4 _
  have sq4 : gSs rT 1027 ty [82000, 82001, 82002, 82003] h hq4 := gSs.tr hS xq4 (by decide)
  have s5 := (xq4.2.2.2.2.2 x 0 (by rw [tx]; decide)).trans esrc
  have s6 := (xq4.2.2.2.2.2 x 1 (by rw [tx]; decide)).trans epic
  have s7 := (xq4.2.2.2.2.2 pic 0 (by rw [tpic]; decide)).trans ebn
  have s8 := (xq4.2.2.2.2.2 bn 0 (by rw [tbn]; decide)).trans eb0
  have s9 := (xq4.2.2.2.2.2 src 1 (by rw [tsrc]; decide)).trans esz
  refine gs_put rfl (by decide) rfl sq4 tb0 rfl rfl rfl rfl (Or.inl rfl) (by decide) (by omega) (by omega) (fun h10 sh10 eh10 fh10 => ?_)
  have s11 := (fh10 x 0 (fun q => absurd (((tx).symm.trans (congrArg ty q.1)).trans tb0) (by decide))).trans s5
  have s12 := (fh10 x 1 (fun q => absurd q.2 (by decide))).trans s6
  have s13 := (fh10 pic 0 (fun q => absurd (((tpic).symm.trans (congrArg ty q.1)).trans tb0) (by decide))).trans s7
  have s14 := (fh10 bn 0 (fun q => absurd (((tbn).symm.trans (congrArg ty q.1)).trans tb0) (by decide))).trans s8
  have s15 := (fh10 src 1 (fun q => absurd q.2 (by decide))).trans s9
  refine gz_s 4 (pc' := 28) (L' := [some (.ref x), some (.int (zi n)), some (.int (zi a)), some (.ref b0), some (.int (zi 0))]) (S' := [.int (zi n), .int (zi 0)]) rfl ?_
  refine gy_icT (pc' := 59) rfl (by decide) (by decide) (by omega) (by omega) (by first | (simp [zc]; done) | (simp only [zc]; omega)) ?_
  refine gz_s 2 (pc' := 61) (L' := [some (.ref x), some (.int (zi n)), some (.int (zi a)), some (.ref b0), some (.int (zi 0))]) (S' := [.ref x, .ref b0]) rfl ?_
  refine gs_gtk rfl (by decide) rfl sh10.1 tx rfl rfl s11 ?_
  refine gy_s 3 (pc' := 67) (L' := [some (.ref x), some (.int (zi n)), some (.int (zi a)), some (.ref b0), some (.int (zi 0))]) (S' := [.int ((zi a) + (zi 1)), .ref src, .ref b0]) (L2 := [some (.ref x), some (.int (zi n)), some (.int (zi a)), some (.ref b0), some (.int (zi 0))]) (S2 := [.int (zi (a + 1)), .ref src, .ref b0]) rfl (by simp only [zi_add, zi_sub, zi_mul, zi_neg, zi_and1, zi_and7, zi_and15, zi_and31, zi_and255, Int.reduceAdd, Int.reduceMul, Int.reduceSub]) (by simp only [zi_add, zi_sub, zi_mul, zi_neg, zi_and1, zi_and7, zi_and15, zi_and31, zi_and255, Int.reduceAdd, Int.reduceMul, Int.reduceSub]) ?_
  refine gz_call rfl (by decide) rfl (by decide) (by decide) (gcal_of rfl rfl rfl (Nat.le_of_ble_eq_true rfl) (gJ.recv (G := gGG) sh10.1 tsrc rfl rfl)) (cl_Collected_byteAt _ sh10.1 src tsrc (a + 1) (by omega) sz s15 (by omega) uq) (fun q16 _ wq16 => ?_)
  obtain ⟨pq16, oq16, hq16⟩ := q16
  obtain ⟨xq16, zq16, gq16, aq16, bq16, uq16_0⟩ := wq16
  refine ⟨_, gq16, ?_⟩
  show gz gPP gGG gcn _ _ 70 [some (.ref x), some (.int (zi n)), some (.int (zi a)), some (.ref b0), some (.int (zi 0))] [.int (zi zq16), .ref b0] hq16 _
  have sq16 : gSs rT 1027 ty [82000, 82001, 82002, 82003] h hq16 := gSs.tr sh10 xq16 (by decide)
  have s17 := (xq16.2.2.2.2.2 x 0 (by rw [tx]; decide)).trans s11
  have s18 := (xq16.2.2.2.2.2 x 1 (by rw [tx]; decide)).trans s12
  have s19 := (xq16.2.2.2.2.2 pic 0 (by rw [tpic]; decide)).trans s13
  have s20 := (xq16.2.2.2.2.2 bn 0 (by rw [tbn]; decide)).trans s14
  have s21 := (xq16.2.2.2.2.2 src 1 (by rw [tsrc]; decide)).trans s15
  have s22 := (xq16.2.2.2.2.2 b0 0 (by rw [tb0]; decide)).trans eh10
  refine gz_s 1 (pc' := 71) (L' := [some (.ref x), some (.int (zi n)), some (.int (zi a)), some (.ref b0), some (.int (zi 0))]) (S' := [.int (zi 4), .int (zi zq16), .ref b0]) rfl ?_
  refine gy_shc (n := 4) (v := 16) rfl (by decide) (by omega) (by decide) (by decide) rfl ?_
  refine gs_put rfl (by decide) rfl sq16 tb0 rfl rfl rfl rfl (Or.inl rfl) (by decide) (by omega) (by omega) (fun h23 sh23 eh23 fh23 => ?_)
  have s24 := (fh23 x 0 (fun q => absurd q.2 (by decide))).trans s17
  have s25 := (fh23 x 1 (fun q => absurd (((tx).symm.trans (congrArg ty q.1)).trans tb0) (by decide))).trans s18
  have s26 := (fh23 pic 0 (fun q => absurd q.2 (by decide))).trans s19
  have s27 := (fh23 bn 0 (fun q => absurd (((tbn).symm.trans (congrArg ty q.1)).trans tb0) (by decide))).trans s20
  have s28 := (fh23 src 1 (fun q => absurd (((tsrc).symm.trans (congrArg ty q.1)).trans tb0) (by decide))).trans s21
  have s29 := (fh23 b0 0 (fun q => absurd q.2 (by decide))).trans s22
  refine gz_s 2 (pc' := 77) (L' := [some (.ref x), some (.int (zi n)), some (.int (zi a)), some (.ref b0), some (.int (zi 0))]) (S' := [.ref x, .ref b0]) rfl ?_
  refine gs_gtk rfl (by decide) rfl sh23.1 tx rfl rfl s24 ?_
  refine gy_s 3 (pc' := 83) (L' := [some (.ref x), some (.int (zi n)), some (.int (zi a)), some (.ref b0), some (.int (zi 0))]) (S' := [.int ((zi a) + (zi 1)), .ref src, .ref b0]) (L2 := [some (.ref x), some (.int (zi n)), some (.int (zi a)), some (.ref b0), some (.int (zi 0))]) (S2 := [.int (zi (a + 1)), .ref src, .ref b0]) rfl (by simp only [zi_add, zi_sub, zi_mul, zi_neg, zi_and1, zi_and7, zi_and15, zi_and31, zi_and255, Int.reduceAdd, Int.reduceMul, Int.reduceSub]) (by simp only [zi_add, zi_sub, zi_mul, zi_neg, zi_and1, zi_and7, zi_and15, zi_and31, zi_and255, Int.reduceAdd, Int.reduceMul, Int.reduceSub]) ?_
  refine gz_call rfl (by decide) rfl (by decide) (by decide) (gcal_of rfl rfl rfl (Nat.le_of_ble_eq_true rfl) (gJ.recv (G := gGG) sh23.1 tsrc rfl rfl)) (cl_Collected_byteAt _ sh23.1 src tsrc (a + 1) (by omega) sz s28 (by omega) uq) (fun q30 _ wq30 => ?_)
  obtain ⟨pq30, oq30, hq30⟩ := q30
  obtain ⟨xq30, zq30, gq30, aq30, bq30, uq30_0⟩ := wq30
  refine ⟨_, gq30, ?_⟩
  show gz gPP gGG gcn _ _ 86 [some (.ref x), some (.int (zi n)), some (.int (zi a)), some (.ref b0), some (.int (zi 0))] [.int (zi zq30), .ref b0] hq30 _
  have sq30 : gSs rT 1027 ty [82000, 82001, 82002, 82003] h hq30 := gSs.tr sh23 xq30 (by decide)
  have s31 := (xq30.2.2.2.2.2 x 0 (by rw [tx]; decide)).trans s24
  have s32 := (xq30.2.2.2.2.2 x 1 (by rw [tx]; decide)).trans s25
  have s33 := (xq30.2.2.2.2.2 pic 0 (by rw [tpic]; decide)).trans s26
  have s34 := (xq30.2.2.2.2.2 bn 0 (by rw [tbn]; decide)).trans s27
  have s35 := (xq30.2.2.2.2.2 src 1 (by rw [tsrc]; decide)).trans s28
  have s36 := (xq30.2.2.2.2.2 b0 0 (by rw [tb0]; decide)).trans s29
  have s37 := (xq30.2.2.2.2.2 b0 1 (by rw [tb0]; decide)).trans eh23
  refine gy_s 2 (pc' := 89) (L' := [some (.ref x), some (.int (zi n)), some (.int (zi a)), some (.ref b0), some (.int (zi 0))]) (S' := [.int ((zi zq30) &&& (zi 15)), .ref b0]) (L2 := [some (.ref x), some (.int (zi n)), some (.int (zi a)), some (.ref b0), some (.int (zi 0))]) (S2 := [.int (zi (zq30 % 16)), .ref b0]) rfl (by simp only [zi_add, zi_sub, zi_mul, zi_neg, zi_and1, zi_and7, zi_and15, zi_and31, zi_and255, Int.reduceAdd, Int.reduceMul, Int.reduceSub]) (by simp only [zi_add, zi_sub, zi_mul, zi_neg, zi_and1, zi_and7, zi_and15, zi_and31, zi_and255, Int.reduceAdd, Int.reduceMul, Int.reduceSub]) ?_
  refine gs_put rfl (by decide) rfl sq30 tb0 rfl rfl rfl rfl (Or.inl rfl) (by decide) (by omega) (by omega) (fun h38 sh38 eh38 fh38 => ?_)
  have s39 := (fh38 x 0 (fun q => absurd q.2 (by decide))).trans s31
  have s40 := (fh38 x 1 (fun q => absurd q.2 (by decide))).trans s32
  have s41 := (fh38 pic 0 (fun q => absurd q.2 (by decide))).trans s33
  have s42 := (fh38 bn 0 (fun q => absurd (((tbn).symm.trans (congrArg ty q.1)).trans tb0) (by decide))).trans s34
  have s43 := (fh38 src 1 (fun q => absurd q.2 (by decide))).trans s35
  have s44 := (fh38 b0 0 (fun q => absurd q.2 (by decide))).trans s36
  have s45 := (fh38 b0 1 (fun q => absurd q.2 (by decide))).trans s37
  refine gz_s 1 (pc' := 93) (L' := [some (.ref x), some (.int (zi n)), some (.int (zi a)), some (.ref b0), some (.int (zi 0))]) (S' := [.ref b0]) rfl ?_
  refine gs_gtk rfl (by decide) rfl sh38.1 tb0 rfl rfl s45 ?_
  refine gz_s 1 (pc' := 97) (L' := [some (.ref x), some (.int (zi n)), some (.int (zi a)), some (.ref b0), some (.int (zi 0))]) (S' := [.int (zi 1), .int (zi (zq16 / 16))]) rfl ?_
  by_cases hc46 : (zq16 / 16 : Int) < 1
  · refine gy_icT (pc' := 124) rfl (by decide) (by decide) (by omega) (by omega) hc46 ?_
    refine gy_s 3 (pc' := 127) (L' := [some (.ref x), some (.int (zi n)), some (.int (zi a)), some (.ref b0), some (.int (zi 0))]) (S' := [.int ((zi a) + (zi 1))]) (L2 := [some (.ref x), some (.int (zi n)), some (.int (zi a)), some (.ref b0), some (.int (zi 0))]) (S2 := [.int (zi (a + 1))]) rfl (by simp only [zi_add, zi_sub, zi_mul, zi_neg, zi_and1, zi_and7, zi_and15, zi_and31, zi_and255, Int.reduceAdd, Int.reduceMul, Int.reduceSub]) (by simp only [zi_add, zi_sub, zi_mul, zi_neg, zi_and1, zi_and7, zi_and15, zi_and31, zi_and255, Int.reduceAdd, Int.reduceMul, Int.reduceSub]) ?_
    obtain ⟨z47, ez47, az47, bz47⟩ := gJ.int (k := 3) (G := gGG) sh38.1 tb0 rfl rfl rfl
    exact gz_end (I := .ireturn) (len := 1) rfl (Or.inl rfl) ⟨sh38, a + 1, zq16 / 16, zq30 % 16, z47, rfl, (by omega), (by omega), s45, (by omega), (by omega), eh38, (by omega), (by omega), ez47, (by omega), (by omega), (by omega)⟩
  · refine gy_icF rfl (by decide) (by decide) (by omega) (by omega) hc46 ?_
    refine gz_s 1 (pc' := 101) (L' := [some (.ref x), some (.int (zi n)), some (.int (zi a)), some (.ref b0), some (.int (zi 0))]) (S' := [.ref b0]) rfl ?_
    refine gs_gtk rfl (by decide) rfl sh38.1 tb0 rfl rfl s45 ?_
    refine gz_s 1 (pc' := 105) (L' := [some (.ref x), some (.int (zi n)), some (.int (zi a)), some (.ref b0), some (.int (zi 0))]) (S' := [.int (zi 2), .int (zi (zq16 / 16))]) rfl ?_
    by_cases hc48 : (2 : Int) < zq16 / 16
    · refine gy_icT (pc' := 124) rfl (by decide) (by decide) (by omega) (by omega) hc48 ?_
      refine gy_s 3 (pc' := 127) (L' := [some (.ref x), some (.int (zi n)), some (.int (zi a)), some (.ref b0), some (.int (zi 0))]) (S' := [.int ((zi a) + (zi 1))]) (L2 := [some (.ref x), some (.int (zi n)), some (.int (zi a)), some (.ref b0), some (.int (zi 0))]) (S2 := [.int (zi (a + 1))]) rfl (by simp only [zi_add, zi_sub, zi_mul, zi_neg, zi_and1, zi_and7, zi_and15, zi_and31, zi_and255, Int.reduceAdd, Int.reduceMul, Int.reduceSub]) (by simp only [zi_add, zi_sub, zi_mul, zi_neg, zi_and1, zi_and7, zi_and15, zi_and31, zi_and255, Int.reduceAdd, Int.reduceMul, Int.reduceSub]) ?_
      obtain ⟨z49, ez49, az49, bz49⟩ := gJ.int (k := 3) (G := gGG) sh38.1 tb0 rfl rfl rfl
      exact gz_end (I := .ireturn) (len := 1) rfl (Or.inl rfl) ⟨sh38, a + 1, zq16 / 16, zq30 % 16, z49, rfl, (by omega), (by omega), s45, (by omega), (by omega), eh38, (by omega), (by omega), ez49, (by omega), (by omega), (by omega)⟩
    · refine gy_icF rfl (by decide) (by decide) (by omega) (by omega) hc48 ?_
      refine gz_s 1 (pc' := 109) (L' := [some (.ref x), some (.int (zi n)), some (.int (zi a)), some (.ref b0), some (.int (zi 0))]) (S' := [.ref b0]) rfl ?_
      refine gs_gtk rfl (by decide) rfl sh38.1 tb0 rfl rfl eh38 ?_
      refine gz_s 1 (pc' := 113) (L' := [some (.ref x), some (.int (zi n)), some (.int (zi a)), some (.ref b0), some (.int (zi 0))]) (S' := [.int (zi 1), .int (zi (zq30 % 16))]) rfl ?_
      by_cases hc50 : (zq30 % 16 : Int) < 1
      · refine gy_icT (pc' := 124) rfl (by decide) (by decide) (by omega) (by omega) hc50 ?_
        refine gy_s 3 (pc' := 127) (L' := [some (.ref x), some (.int (zi n)), some (.int (zi a)), some (.ref b0), some (.int (zi 0))]) (S' := [.int ((zi a) + (zi 1))]) (L2 := [some (.ref x), some (.int (zi n)), some (.int (zi a)), some (.ref b0), some (.int (zi 0))]) (S2 := [.int (zi (a + 1))]) rfl (by simp only [zi_add, zi_sub, zi_mul, zi_neg, zi_and1, zi_and7, zi_and15, zi_and31, zi_and255, Int.reduceAdd, Int.reduceMul, Int.reduceSub]) (by simp only [zi_add, zi_sub, zi_mul, zi_neg, zi_and1, zi_and7, zi_and15, zi_and31, zi_and255, Int.reduceAdd, Int.reduceMul, Int.reduceSub]) ?_
        obtain ⟨z51, ez51, az51, bz51⟩ := gJ.int (k := 3) (G := gGG) sh38.1 tb0 rfl rfl rfl
        exact gz_end (I := .ireturn) (len := 1) rfl (Or.inl rfl) ⟨sh38, a + 1, zq16 / 16, zq30 % 16, z51, rfl, (by omega), (by omega), s45, (by omega), (by omega), eh38, (by omega), (by omega), ez51, (by omega), (by omega), (by omega)⟩
      · refine gy_icF rfl (by decide) (by decide) (by omega) (by omega) hc50 ?_
        refine gz_s 1 (pc' := 117) (L' := [some (.ref x), some (.int (zi n)), some (.int (zi a)), some (.ref b0), some (.int (zi 0))]) (S' := [.ref b0]) rfl ?_
        refine gs_gtk rfl (by decide) rfl sh38.1 tb0 rfl rfl eh38 ?_
        refine gz_s 1 (pc' := 121) (L' := [some (.ref x), some (.int (zi n)), some (.int (zi a)), some (.ref b0), some (.int (zi 0))]) (S' := [.int (zi 2), .int (zi (zq30 % 16))]) rfl ?_
        by_cases hc52 : (zq30 % 16 : Int) ≤ 2
        · refine gy_icT (pc' := 128) rfl (by decide) (by decide) (by omega) (by omega) hc52 ?_
          refine gz_s 2 (pc' := 130) (L' := [some (.ref x), some (.int (zi n)), some (.int (zi a)), some (.ref b0), some (.int (zi 0))]) (S' := [.ref x, .ref b0]) rfl ?_
          refine gs_gtk rfl (by decide) rfl sh38.1 tx rfl rfl s39 ?_
          refine gy_s 3 (pc' := 136) (L' := [some (.ref x), some (.int (zi n)), some (.int (zi a)), some (.ref b0), some (.int (zi 0))]) (S' := [.int ((zi a) + (zi 2)), .ref src, .ref b0]) (L2 := [some (.ref x), some (.int (zi n)), some (.int (zi a)), some (.ref b0), some (.int (zi 0))]) (S2 := [.int (zi (a + 2)), .ref src, .ref b0]) rfl (by simp only [zi_add, zi_sub, zi_mul, zi_neg, zi_and1, zi_and7, zi_and15, zi_and31, zi_and255, Int.reduceAdd, Int.reduceMul, Int.reduceSub]) (by simp only [zi_add, zi_sub, zi_mul, zi_neg, zi_and1, zi_and7, zi_and15, zi_and31, zi_and255, Int.reduceAdd, Int.reduceMul, Int.reduceSub]) ?_
          refine gz_call rfl (by decide) rfl (by decide) (by decide) (gcal_of rfl rfl rfl (Nat.le_of_ble_eq_true rfl) (gJ.recv (G := gGG) sh38.1 tsrc rfl rfl)) (cl_Collected_byteAt _ sh38.1 src tsrc (a + 2) (by omega) sz s43 (by omega) uq) (fun q53 _ wq53 => ?_)
          obtain ⟨pq53, oq53, hq53⟩ := q53
          obtain ⟨xq53, zq53, gq53, aq53, bq53, uq53_0⟩ := wq53
          refine ⟨_, gq53, ?_⟩
          show gz gPP gGG gcn _ _ 139 [some (.ref x), some (.int (zi n)), some (.int (zi a)), some (.ref b0), some (.int (zi 0))] [.int (zi zq53), .ref b0] hq53 _
          have sq53 : gSs rT 1027 ty [82000, 82001, 82002, 82003] h hq53 := gSs.tr sh38 xq53 (by decide)
          have s54 := (xq53.2.2.2.2.2 x 0 (by rw [tx]; decide)).trans s39
          have s55 := (xq53.2.2.2.2.2 x 1 (by rw [tx]; decide)).trans s40
          have s56 := (xq53.2.2.2.2.2 pic 0 (by rw [tpic]; decide)).trans s41
          have s57 := (xq53.2.2.2.2.2 bn 0 (by rw [tbn]; decide)).trans s42
          have s58 := (xq53.2.2.2.2.2 src 1 (by rw [tsrc]; decide)).trans s43
          have s59 := (xq53.2.2.2.2.2 b0 0 (by rw [tb0]; decide)).trans s44
          have s60 := (xq53.2.2.2.2.2 b0 1 (by rw [tb0]; decide)).trans s45
          have s61 := (xq53.2.2.2.2.2 b0 2 (by rw [tb0]; decide)).trans eh38
          refine gs_put rfl (by decide) rfl sq53 tb0 rfl rfl rfl rfl (Or.inl rfl) (by decide) (by omega) (by omega) (fun h62 sh62 eh62 fh62 => ?_)
          have s63 := (fh62 x 0 (fun q => absurd q.2 (by decide))).trans s54
          have s64 := (fh62 x 1 (fun q => absurd q.2 (by decide))).trans s55
          have s65 := (fh62 pic 0 (fun q => absurd q.2 (by decide))).trans s56
          have s66 := (fh62 bn 0 (fun q => absurd (((tbn).symm.trans (congrArg ty q.1)).trans tb0) (by decide))).trans s57
          have s67 := (fh62 src 1 (fun q => absurd q.2 (by decide))).trans s58
          have s68 := (fh62 b0 0 (fun q => absurd q.2 (by decide))).trans s59
          have s69 := (fh62 b0 1 (fun q => absurd q.2 (by decide))).trans s60
          have s70 := (fh62 b0 2 (fun q => absurd q.2 (by decide))).trans s61
          refine gz_s 1 (pc' := 143) (L' := [some (.ref x), some (.int (zi n)), some (.int (zi a)), some (.ref b0), some (.int (zi 0))]) (S' := [.ref b0]) rfl ?_
          refine gs_gtk rfl (by decide) rfl sh62.1 tb0 rfl rfl eh62 ?_
          by_cases hc71 : (zq53 : Int) < 0
          · refine gy_ifT (pc' := 157) rfl (by decide) (by decide) (by omega) hc71 ?_
            refine gy_s 4 (pc' := 164) (L' := [some (.ref x), some (.int (zi n)), some (.int (zi a)), some (.ref b0), some (.int (zi 0))]) (S' := [.int ((zi a) + (zi 2))]) (L2 := [some (.ref x), some (.int (zi n)), some (.int (zi a)), some (.ref b0), some (.int (zi 0))]) (S2 := [.int (zi (a + 2))]) rfl (by simp only [zi_add, zi_sub, zi_mul, zi_neg, zi_and1, zi_and7, zi_and15, zi_and31, zi_and255, Int.reduceAdd, Int.reduceMul, Int.reduceSub]) (by simp only [zi_add, zi_sub, zi_mul, zi_neg, zi_and1, zi_and7, zi_and15, zi_and31, zi_and255, Int.reduceAdd, Int.reduceMul, Int.reduceSub]) ?_
            exact gz_end (I := .ireturn) (len := 1) rfl (Or.inl rfl) ⟨sh62, a + 2, zq16 / 16, zq30 % 16, zq53, rfl, (by omega), (by omega), s69, (by omega), (by omega), s70, (by omega), (by omega), eh62, (by omega), (by omega), (by omega)⟩
          · refine gy_ifF rfl (by decide) (by decide) (by omega) hc71 ?_
            refine gz_s 1 (pc' := 150) (L' := [some (.ref x), some (.int (zi n)), some (.int (zi a)), some (.ref b0), some (.int (zi 0))]) (S' := [.ref b0]) rfl ?_
            refine gs_gtk rfl (by decide) rfl sh62.1 tb0 rfl rfl eh62 ?_
            refine gz_s 1 (pc' := 154) (L' := [some (.ref x), some (.int (zi n)), some (.int (zi a)), some (.ref b0), some (.int (zi 0))]) (S' := [.int (zi 4), .int (zi zq53)]) rfl ?_
            by_cases hc72 : (zq53 : Int) < 4
            · refine gy_icT (pc' := 163) rfl (by decide) (by decide) (by omega) (by omega) hc72 ?_
              refine gz_s 1 (pc' := 164) (L' := [some (.ref x), some (.int (zi n)), some (.int (zi a)), some (.ref b0), some (.int (zi 0))]) (S' := [.int (zi (-1))]) rfl ?_
              exact gz_end (I := .ireturn) (len := 1) rfl (Or.inl rfl) ⟨sh62, (-1), zq16 / 16, zq30 % 16, zq53, rfl, (by omega), (by omega), s69, (by omega), (by omega), s70, (by omega), (by omega), eh62, (by omega), (by omega), (by omega)⟩
            · refine gy_icF rfl (by decide) (by decide) (by omega) (by omega) hc72 ?_
              refine gy_s 4 (pc' := 164) (L' := [some (.ref x), some (.int (zi n)), some (.int (zi a)), some (.ref b0), some (.int (zi 0))]) (S' := [.int ((zi a) + (zi 2))]) (L2 := [some (.ref x), some (.int (zi n)), some (.int (zi a)), some (.ref b0), some (.int (zi 0))]) (S2 := [.int (zi (a + 2))]) rfl (by simp only [zi_add, zi_sub, zi_mul, zi_neg, zi_and1, zi_and7, zi_and15, zi_and31, zi_and255, Int.reduceAdd, Int.reduceMul, Int.reduceSub]) (by simp only [zi_add, zi_sub, zi_mul, zi_neg, zi_and1, zi_and7, zi_and15, zi_and31, zi_and255, Int.reduceAdd, Int.reduceMul, Int.reduceSub]) ?_
              exact gz_end (I := .ireturn) (len := 1) rfl (Or.inl rfl) ⟨sh62, a + 2, zq16 / 16, zq30 % 16, zq53, rfl, (by omega), (by omega), s69, (by omega), (by omega), s70, (by omega), (by omega), eh62, (by omega), (by omega), (by omega)⟩
        · refine gy_icF rfl (by decide) (by decide) (by omega) (by omega) hc52 ?_
          refine gy_s 3 (pc' := 127) (L' := [some (.ref x), some (.int (zi n)), some (.int (zi a)), some (.ref b0), some (.int (zi 0))]) (S' := [.int ((zi a) + (zi 1))]) (L2 := [some (.ref x), some (.int (zi n)), some (.int (zi a)), some (.ref b0), some (.int (zi 0))]) (S2 := [.int (zi (a + 1))]) rfl (by simp only [zi_add, zi_sub, zi_mul, zi_neg, zi_and1, zi_and7, zi_and15, zi_and31, zi_and255, Int.reduceAdd, Int.reduceMul, Int.reduceSub]) (by simp only [zi_add, zi_sub, zi_mul, zi_neg, zi_and1, zi_and7, zi_and15, zi_and31, zi_and255, Int.reduceAdd, Int.reduceMul, Int.reduceSub]) ?_
          obtain ⟨z73, ez73, az73, bz73⟩ := gJ.int (k := 3) (G := gGG) sh38.1 tb0 rfl rfl rfl
          exact gz_end (I := .ireturn) (len := 1) rfl (Or.inl rfl) ⟨sh38, a + 1, zq16 / 16, zq30 % 16, z73, rfl, (by omega), (by omega), s45, (by omega), (by omega), eh38, (by omega), (by omega), ez73, (by omega), (by omega), (by omega)⟩
set_option maxRecDepth 20000 in
set_option maxHeartbeats 4000000 in
theorem cl_readBand1 (d : Nat) {ty : Nat → Nat} {h : gH} (hJ : gJ rT 1027 ty h) (x : Nat) (tx : ty x = 65) (n : Int) (rn : 1 ≤ n ∧ n ≤ 1) (a : Int) (ra : 0 ≤ a ∧ a ≤ 4100) (src : Nat) (esrc : h.2.2.2.2 x 0 = .ref src) (tsrc : ty src = 51) (pic : Nat) (epic : h.2.2.2.2 x 1 = .ref pic) (tpic : ty pic = 54) (bn : Nat) (ebn : h.2.2.2.2 pic 0 = .ref bn) (tbn : ty bn = 57) (b0 : Nat) (eb0 : h.2.2.2.2 bn 0 = .ref b0) (tb0 : ty b0 = 82) (b1 : Nat) (eb1 : h.2.2.2.2 bn 1 = .ref b1) (tb1 : ty b1 = 83) (sz : Int) (esz : h.2.2.2.2 src 1 = .int (zi sz)) (rsz : 0 ≤ sz ∧ sz ≤ 2000) (uq : gUq ty) : gz gPP gGG gcn (d + 1) gt30 0 (gent [.ref x, .int (zi n), .int (zi a)] 5) [] h (fun q _ => gSs rT 1027 ty [83000, 83001, 83002, 83003] h q.2.2 ∧ ∃ z hb vb tb : Int, gfin gt30 q.1 q.2.1 = some (some (.int (zi z))) ∧ (-1) ≤ z ∧ z ≤ 4200 ∧ q.2.2.2.2.2.2 b1 1 = .int (zi hb) ∧ (-1) ≤ hb ∧ hb ≤ 15 ∧ q.2.2.2.2.2.2 b1 2 = .int (zi vb) ∧ 0 ≤ vb ∧ vb ≤ 15 ∧ q.2.2.2.2.2.2 b1 3 = .int (zi tb) ∧ (-1) ≤ tb ∧ tb ≤ 255 ∧ (z = -1 → (1 ≤ hb ∧ hb ≤ 2 ∧ 1 ≤ vb ∧ vb ≤ 2 ∧ 0 ≤ tb ∧ tb ≤ 3))) := by
  have hS : gSs rT 1027 ty [83000, 83001, 83002, 83003] h h := gSs.rf hJ
  refine gz_s 1 (pc' := 1) (L' := [some (.ref x), some (.int (zi n)), some (.int (zi a)), none, none]) (S' := [.ref x]) rfl ?_
  refine gs_gtk rfl (by decide) rfl hS.1 tx rfl rfl epic ?_
  refine gs_gtk rfl (by decide) rfl hS.1 tpic rfl rfl ebn ?_
  refine gz_s 1 (pc' := 8) (L' := [some (.ref x), some (.int (zi n)), some (.int (zi a)), none, none]) (S' := [.int (zi n), .ref bn]) rfl ?_
  have he3 : (n : Int) = 1 := by omega
  refine gs_aak (j := 1) rfl (by decide) hS.1 tbn rfl rfl rfl (by decide) he3 (by decide) eb1 ?_
  refine gz_s 3 (pc' := 12) (L' := [some (.ref x), some (.int (zi n)), some (.int (zi a)), some (.ref b1), none]) (S' := [.ref x, .ref b1]) rfl ?_
  refine gs_gtk rfl (by decide) rfl hS.1 tx rfl rfl esrc ?_
  refine gz_s 1 (pc' := 16) (L' := [some (.ref x), some (.int (zi n)), some (.int (zi a)), some (.ref b1), none]) (S' := [.int (zi a), .ref src, .ref b1]) rfl ?_
  refine gz_call rfl (by decide) rfl (by decide) (by decide) (gcal_of rfl rfl rfl (Nat.le_of_ble_eq_true rfl) (gJ.recv (G := gGG) hS.1 tsrc rfl rfl)) (cl_Collected_byteAt _ hS.1 src tsrc a (by omega) sz esz (by omega) uq) (fun q4 _ wq4 => ?_)
  obtain ⟨pq4, oq4, hq4⟩ := q4
  obtain ⟨xq4, zq4, gq4, aq4, bq4, uq4_0⟩ := wq4
  refine ⟨_, gq4, ?_⟩
  show gz gPP gGG gcn _ _ 19 [some (.ref x), some (.int (zi n)), some (.int (zi a)), some (.ref b1), none] [.int (zi zq4), .ref b1] hq4 _
  have sq4 : gSs rT 1027 ty [83000, 83001, 83002, 83003] h hq4 := gSs.tr hS xq4 (by decide)
  have s5 := (xq4.2.2.2.2.2 x 0 (by rw [tx]; decide)).trans esrc
  have s6 := (xq4.2.2.2.2.2 x 1 (by rw [tx]; decide)).trans epic
  have s7 := (xq4.2.2.2.2.2 pic 0 (by rw [tpic]; decide)).trans ebn
  have s8 := (xq4.2.2.2.2.2 bn 0 (by rw [tbn]; decide)).trans eb0
  have s9 := (xq4.2.2.2.2.2 bn 1 (by rw [tbn]; decide)).trans eb1
  have s10 := (xq4.2.2.2.2.2 src 1 (by rw [tsrc]; decide)).trans esz
  refine gs_put rfl (by decide) rfl sq4 tb1 rfl rfl rfl rfl (Or.inl rfl) (by decide) (by omega) (by omega) (fun h11 sh11 eh11 fh11 => ?_)
  have s12 := (fh11 x 0 (fun q => absurd (((tx).symm.trans (congrArg ty q.1)).trans tb1) (by decide))).trans s5
  have s13 := (fh11 x 1 (fun q => absurd q.2 (by decide))).trans s6
  have s14 := (fh11 pic 0 (fun q => absurd (((tpic).symm.trans (congrArg ty q.1)).trans tb1) (by decide))).trans s7
  have s15 := (fh11 bn 0 (fun q => absurd (((tbn).symm.trans (congrArg ty q.1)).trans tb1) (by decide))).trans s8
  have s16 := (fh11 bn 1 (fun q => absurd (((tbn).symm.trans (congrArg ty q.1)).trans tb1) (by decide))).trans s9
  have s17 := (fh11 src 1 (fun q => absurd q.2 (by decide))).trans s10
  refine gz_s 4 (pc' := 28) (L' := [some (.ref x), some (.int (zi n)), some (.int (zi a)), some (.ref b1), some (.int (zi 0))]) (S' := [.int (zi n), .int (zi 0)]) rfl ?_
  refine gy_icF rfl (by decide) (by decide) (by omega) (by omega) (by first | (simp [zc]; done) | (simp only [zc]; omega)) ?_
  refine gz_s 1 (pc' := 32) (L' := [some (.ref x), some (.int (zi n)), some (.int (zi a)), some (.ref b1), some (.int (zi 0))]) (S' := [.ref x]) rfl ?_
  refine gs_gtk rfl (by decide) rfl sh11.1 tx rfl rfl s13 ?_
  refine gs_gtk rfl (by decide) rfl sh11.1 tpic rfl rfl s14 ?_
  refine gz_s 1 (pc' := 40) (L' := [some (.ref x), some (.int (zi n)), some (.int (zi a)), some (.ref b1), some (.int (zi 0))]) (S' := [.int (zi 0), .ref bn]) rfl ?_
  have he20 : (0 : Int) = 0 := by omega
  refine gs_aak (j := 0) rfl (by decide) sh11.1 tbn rfl rfl rfl (by decide) he20 (by decide) s15 ?_
  refine gs_get rfl (by decide) rfl sh11.1 tb0 rfl rfl rfl (fun z21 ez21 az21 bz21 => ?_)
  refine gz_s 1 (pc' := 45) (L' := [some (.ref x), some (.int (zi n)), some (.int (zi a)), some (.ref b1), some (.int (zi 0))]) (S' := [.ref b1, .int (zi z21)]) rfl ?_
  refine gs_gtk rfl (by decide) rfl sh11.1 tb1 rfl rfl eh11 ?_
  by_cases hc22 : ¬ (z21 : Int) = zq4
  · refine gy_icT (pc' := 53) rfl (by decide) (by decide) (by omega) (by omega) hc22 ?_
    refine gy_s 4 (pc' := 28) (L' := [some (.ref x), some (.int (zi n)), some (.int (zi a)), some (.ref b1), some (.int ((zi 0) + zi 1))]) (S' := [.int (zi n), .int ((zi 0) + zi 1)]) (L2 := [some (.ref x), some (.int (zi n)), some (.int (zi a)), some (.ref b1), some (.int (zi 1))]) (S2 := [.int (zi n), .int (zi 1)]) rfl (by simp only [zi_add, zi_sub, zi_mul, zi_neg, zi_and1, zi_and7, zi_and15, zi_and31, zi_and255, Int.reduceAdd, Int.reduceMul, Int.reduceSub]) (by simp only [zi_add, zi_sub, zi_mul, zi_neg, zi_and1, zi_and7, zi_and15, zi_and31, zi_and255, Int.reduceAdd, Int.reduceMul, Int.reduceSub]) ?_
    refine gy_icT (pc' := 59) rfl (by decide) (by decide) (by omega) (by omega) (by first | (simp [zc]; done) | (simp only [zc]; omega)) ?_
    refine gz_s 2 (pc' := 61) (L' := [some (.ref x), some (.int (zi n)), some (.int (zi a)), some (.ref b1), some (.int (zi 1))]) (S' := [.ref x, .ref b1]) rfl ?_
    refine gs_gtk rfl (by decide) rfl sh11.1 tx rfl rfl s12 ?_
    refine gy_s 3 (pc' := 67) (L' := [some (.ref x), some (.int (zi n)), some (.int (zi a)), some (.ref b1), some (.int (zi 1))]) (S' := [.int ((zi a) + (zi 1)), .ref src, .ref b1]) (L2 := [some (.ref x), some (.int (zi n)), some (.int (zi a)), some (.ref b1), some (.int (zi 1))]) (S2 := [.int (zi (a + 1)), .ref src, .ref b1]) rfl (by simp only [zi_add, zi_sub, zi_mul, zi_neg, zi_and1, zi_and7, zi_and15, zi_and31, zi_and255, Int.reduceAdd, Int.reduceMul, Int.reduceSub]) (by simp only [zi_add, zi_sub, zi_mul, zi_neg, zi_and1, zi_and7, zi_and15, zi_and31, zi_and255, Int.reduceAdd, Int.reduceMul, Int.reduceSub]) ?_
    refine gz_call rfl (by decide) rfl (by decide) (by decide) (gcal_of rfl rfl rfl (Nat.le_of_ble_eq_true rfl) (gJ.recv (G := gGG) sh11.1 tsrc rfl rfl)) (cl_Collected_byteAt _ sh11.1 src tsrc (a + 1) (by omega) sz s17 (by omega) uq) (fun q23 _ wq23 => ?_)
    obtain ⟨pq23, oq23, hq23⟩ := q23
    obtain ⟨xq23, zq23, gq23, aq23, bq23, uq23_0⟩ := wq23
    refine ⟨_, gq23, ?_⟩
    show gz gPP gGG gcn _ _ 70 [some (.ref x), some (.int (zi n)), some (.int (zi a)), some (.ref b1), some (.int (zi 1))] [.int (zi zq23), .ref b1] hq23 _
    have sq23 : gSs rT 1027 ty [83000, 83001, 83002, 83003] h hq23 := gSs.tr sh11 xq23 (by decide)
    have s24 := (xq23.2.2.2.2.2 x 0 (by rw [tx]; decide)).trans s12
    have s25 := (xq23.2.2.2.2.2 x 1 (by rw [tx]; decide)).trans s13
    have s26 := (xq23.2.2.2.2.2 pic 0 (by rw [tpic]; decide)).trans s14
    have s27 := (xq23.2.2.2.2.2 bn 0 (by rw [tbn]; decide)).trans s15
    have s28 := (xq23.2.2.2.2.2 bn 1 (by rw [tbn]; decide)).trans s16
    have s29 := (xq23.2.2.2.2.2 src 1 (by rw [tsrc]; decide)).trans s17
    have s30 := (xq23.2.2.2.2.2 b1 0 (by rw [tb1]; decide)).trans eh11
    have s31 := (xq23.2.2.2.2.2 b0 0 (by rw [tb0]; decide)).trans ez21
    refine gz_s 1 (pc' := 71) (L' := [some (.ref x), some (.int (zi n)), some (.int (zi a)), some (.ref b1), some (.int (zi 1))]) (S' := [.int (zi 4), .int (zi zq23), .ref b1]) rfl ?_
    refine gy_shc (n := 4) (v := 16) rfl (by decide) (by omega) (by decide) (by decide) rfl ?_
    refine gs_put rfl (by decide) rfl sq23 tb1 rfl rfl rfl rfl (Or.inl rfl) (by decide) (by omega) (by omega) (fun h32 sh32 eh32 fh32 => ?_)
    have s33 := (fh32 x 0 (fun q => absurd q.2 (by decide))).trans s24
    have s34 := (fh32 x 1 (fun q => absurd (((tx).symm.trans (congrArg ty q.1)).trans tb1) (by decide))).trans s25
    have s35 := (fh32 pic 0 (fun q => absurd q.2 (by decide))).trans s26
    have s36 := (fh32 bn 0 (fun q => absurd (((tbn).symm.trans (congrArg ty q.1)).trans tb1) (by decide))).trans s27
    have s37 := (fh32 bn 1 (fun q => absurd (((tbn).symm.trans (congrArg ty q.1)).trans tb1) (by decide))).trans s28
    have s38 := (fh32 src 1 (fun q => absurd (((tsrc).symm.trans (congrArg ty q.1)).trans tb1) (by decide))).trans s29
    have s39 := (fh32 b1 0 (fun q => absurd q.2 (by decide))).trans s30
    have s40 := (fh32 b0 0 (fun q => absurd q.2 (by decide))).trans s31
    refine gz_s 2 (pc' := 77) (L' := [some (.ref x), some (.int (zi n)), some (.int (zi a)), some (.ref b1), some (.int (zi 1))]) (S' := [.ref x, .ref b1]) rfl ?_
    refine gs_gtk rfl (by decide) rfl sh32.1 tx rfl rfl s33 ?_
    refine gy_s 3 (pc' := 83) (L' := [some (.ref x), some (.int (zi n)), some (.int (zi a)), some (.ref b1), some (.int (zi 1))]) (S' := [.int ((zi a) + (zi 1)), .ref src, .ref b1]) (L2 := [some (.ref x), some (.int (zi n)), some (.int (zi a)), some (.ref b1), some (.int (zi 1))]) (S2 := [.int (zi (a + 1)), .ref src, .ref b1]) rfl (by simp only [zi_add, zi_sub, zi_mul, zi_neg, zi_and1, zi_and7, zi_and15, zi_and31, zi_and255, Int.reduceAdd, Int.reduceMul, Int.reduceSub]) (by simp only [zi_add, zi_sub, zi_mul, zi_neg, zi_and1, zi_and7, zi_and15, zi_and31, zi_and255, Int.reduceAdd, Int.reduceMul, Int.reduceSub]) ?_
    refine gz_call rfl (by decide) rfl (by decide) (by decide) (gcal_of rfl rfl rfl (Nat.le_of_ble_eq_true rfl) (gJ.recv (G := gGG) sh32.1 tsrc rfl rfl)) (cl_Collected_byteAt _ sh32.1 src tsrc (a + 1) (by omega) sz s38 (by omega) uq) (fun q41 _ wq41 => ?_)
    obtain ⟨pq41, oq41, hq41⟩ := q41
    obtain ⟨xq41, zq41, gq41, aq41, bq41, uq41_0⟩ := wq41
    refine ⟨_, gq41, ?_⟩
    show gz gPP gGG gcn _ _ 86 [some (.ref x), some (.int (zi n)), some (.int (zi a)), some (.ref b1), some (.int (zi 1))] [.int (zi zq41), .ref b1] hq41 _
    have sq41 : gSs rT 1027 ty [83000, 83001, 83002, 83003] h hq41 := gSs.tr sh32 xq41 (by decide)
    have s42 := (xq41.2.2.2.2.2 x 0 (by rw [tx]; decide)).trans s33
    have s43 := (xq41.2.2.2.2.2 x 1 (by rw [tx]; decide)).trans s34
    have s44 := (xq41.2.2.2.2.2 pic 0 (by rw [tpic]; decide)).trans s35
    have s45 := (xq41.2.2.2.2.2 bn 0 (by rw [tbn]; decide)).trans s36
    have s46 := (xq41.2.2.2.2.2 bn 1 (by rw [tbn]; decide)).trans s37
    have s47 := (xq41.2.2.2.2.2 src 1 (by rw [tsrc]; decide)).trans s38
    have s48 := (xq41.2.2.2.2.2 b1 0 (by rw [tb1]; decide)).trans s39
    have s49 := (xq41.2.2.2.2.2 b0 0 (by rw [tb0]; decide)).trans s40
    have s50 := (xq41.2.2.2.2.2 b1 1 (by rw [tb1]; decide)).trans eh32
    refine gy_s 2 (pc' := 89) (L' := [some (.ref x), some (.int (zi n)), some (.int (zi a)), some (.ref b1), some (.int (zi 1))]) (S' := [.int ((zi zq41) &&& (zi 15)), .ref b1]) (L2 := [some (.ref x), some (.int (zi n)), some (.int (zi a)), some (.ref b1), some (.int (zi 1))]) (S2 := [.int (zi (zq41 % 16)), .ref b1]) rfl (by simp only [zi_add, zi_sub, zi_mul, zi_neg, zi_and1, zi_and7, zi_and15, zi_and31, zi_and255, Int.reduceAdd, Int.reduceMul, Int.reduceSub]) (by simp only [zi_add, zi_sub, zi_mul, zi_neg, zi_and1, zi_and7, zi_and15, zi_and31, zi_and255, Int.reduceAdd, Int.reduceMul, Int.reduceSub]) ?_
    refine gs_put rfl (by decide) rfl sq41 tb1 rfl rfl rfl rfl (Or.inl rfl) (by decide) (by omega) (by omega) (fun h51 sh51 eh51 fh51 => ?_)
    have s52 := (fh51 x 0 (fun q => absurd q.2 (by decide))).trans s42
    have s53 := (fh51 x 1 (fun q => absurd q.2 (by decide))).trans s43
    have s54 := (fh51 pic 0 (fun q => absurd q.2 (by decide))).trans s44
    have s55 := (fh51 bn 0 (fun q => absurd (((tbn).symm.trans (congrArg ty q.1)).trans tb1) (by decide))).trans s45
    have s56 := (fh51 bn 1 (fun q => absurd (((tbn).symm.trans (congrArg ty q.1)).trans tb1) (by decide))).trans s46
    have s57 := (fh51 src 1 (fun q => absurd q.2 (by decide))).trans s47
    have s58 := (fh51 b1 0 (fun q => absurd q.2 (by decide))).trans s48
    have s59 := (fh51 b0 0 (fun q => absurd q.2 (by decide))).trans s49
    have s60 := (fh51 b1 1 (fun q => absurd q.2 (by decide))).trans s50
    refine gz_s 1 (pc' := 93) (L' := [some (.ref x), some (.int (zi n)), some (.int (zi a)), some (.ref b1), some (.int (zi 1))]) (S' := [.ref b1]) rfl ?_
    refine gs_gtk rfl (by decide) rfl sh51.1 tb1 rfl rfl s60 ?_
    refine gz_s 1 (pc' := 97) (L' := [some (.ref x), some (.int (zi n)), some (.int (zi a)), some (.ref b1), some (.int (zi 1))]) (S' := [.int (zi 1), .int (zi (zq23 / 16))]) rfl ?_
    by_cases hc61 : (zq23 / 16 : Int) < 1
    · refine gy_icT (pc' := 124) rfl (by decide) (by decide) (by omega) (by omega) hc61 ?_
      refine gy_s 3 (pc' := 127) (L' := [some (.ref x), some (.int (zi n)), some (.int (zi a)), some (.ref b1), some (.int (zi 1))]) (S' := [.int ((zi a) + (zi 1))]) (L2 := [some (.ref x), some (.int (zi n)), some (.int (zi a)), some (.ref b1), some (.int (zi 1))]) (S2 := [.int (zi (a + 1))]) rfl (by simp only [zi_add, zi_sub, zi_mul, zi_neg, zi_and1, zi_and7, zi_and15, zi_and31, zi_and255, Int.reduceAdd, Int.reduceMul, Int.reduceSub]) (by simp only [zi_add, zi_sub, zi_mul, zi_neg, zi_and1, zi_and7, zi_and15, zi_and31, zi_and255, Int.reduceAdd, Int.reduceMul, Int.reduceSub]) ?_
      obtain ⟨z62, ez62, az62, bz62⟩ := gJ.int (k := 3) (G := gGG) sh51.1 tb1 rfl rfl rfl
      exact gz_end (I := .ireturn) (len := 1) rfl (Or.inl rfl) ⟨sh51, a + 1, zq23 / 16, zq41 % 16, z62, rfl, (by omega), (by omega), s60, (by omega), (by omega), eh51, (by omega), (by omega), ez62, (by omega), (by omega), (by omega)⟩
    · refine gy_icF rfl (by decide) (by decide) (by omega) (by omega) hc61 ?_
      refine gz_s 1 (pc' := 101) (L' := [some (.ref x), some (.int (zi n)), some (.int (zi a)), some (.ref b1), some (.int (zi 1))]) (S' := [.ref b1]) rfl ?_
      refine gs_gtk rfl (by decide) rfl sh51.1 tb1 rfl rfl s60 ?_
      refine gz_s 1 (pc' := 105) (L' := [some (.ref x), some (.int (zi n)), some (.int (zi a)), some (.ref b1), some (.int (zi 1))]) (S' := [.int (zi 2), .int (zi (zq23 / 16))]) rfl ?_
      by_cases hc63 : (2 : Int) < zq23 / 16
      · refine gy_icT (pc' := 124) rfl (by decide) (by decide) (by omega) (by omega) hc63 ?_
        refine gy_s 3 (pc' := 127) (L' := [some (.ref x), some (.int (zi n)), some (.int (zi a)), some (.ref b1), some (.int (zi 1))]) (S' := [.int ((zi a) + (zi 1))]) (L2 := [some (.ref x), some (.int (zi n)), some (.int (zi a)), some (.ref b1), some (.int (zi 1))]) (S2 := [.int (zi (a + 1))]) rfl (by simp only [zi_add, zi_sub, zi_mul, zi_neg, zi_and1, zi_and7, zi_and15, zi_and31, zi_and255, Int.reduceAdd, Int.reduceMul, Int.reduceSub]) (by simp only [zi_add, zi_sub, zi_mul, zi_neg, zi_and1, zi_and7, zi_and15, zi_and31, zi_and255, Int.reduceAdd, Int.reduceMul, Int.reduceSub]) ?_
        obtain ⟨z64, ez64, az64, bz64⟩ := gJ.int (k := 3) (G := gGG) sh51.1 tb1 rfl rfl rfl
        exact gz_end (I := .ireturn) (len := 1) rfl (Or.inl rfl) ⟨sh51, a + 1, zq23 / 16, zq41 % 16, z64, rfl, (by omega), (by omega), s60, (by omega), (by omega), eh51, (by omega), (by omega), ez64, (by omega), (by omega), (by omega)⟩
      · refine gy_icF rfl (by decide) (by decide) (by omega) (by omega) hc63 ?_
        refine gz_s 1 (pc' := 109) (L' := [some (.ref x), some (.int (zi n)), some (.int (zi a)), some (.ref b1), some (.int (zi 1))]) (S' := [.ref b1]) rfl ?_
        refine gs_gtk rfl (by decide) rfl sh51.1 tb1 rfl rfl eh51 ?_
        refine gz_s 1 (pc' := 113) (L' := [some (.ref x), some (.int (zi n)), some (.int (zi a)), some (.ref b1), some (.int (zi 1))]) (S' := [.int (zi 1), .int (zi (zq41 % 16))]) rfl ?_
        by_cases hc65 : (zq41 % 16 : Int) < 1
        · refine gy_icT (pc' := 124) rfl (by decide) (by decide) (by omega) (by omega) hc65 ?_
          refine gy_s 3 (pc' := 127) (L' := [some (.ref x), some (.int (zi n)), some (.int (zi a)), some (.ref b1), some (.int (zi 1))]) (S' := [.int ((zi a) + (zi 1))]) (L2 := [some (.ref x), some (.int (zi n)), some (.int (zi a)), some (.ref b1), some (.int (zi 1))]) (S2 := [.int (zi (a + 1))]) rfl (by simp only [zi_add, zi_sub, zi_mul, zi_neg, zi_and1, zi_and7, zi_and15, zi_and31, zi_and255, Int.reduceAdd, Int.reduceMul, Int.reduceSub]) (by simp only [zi_add, zi_sub, zi_mul, zi_neg, zi_and1, zi_and7, zi_and15, zi_and31, zi_and255, Int.reduceAdd, Int.reduceMul, Int.reduceSub]) ?_
          obtain ⟨z66, ez66, az66, bz66⟩ := gJ.int (k := 3) (G := gGG) sh51.1 tb1 rfl rfl rfl
          exact gz_end (I := .ireturn) (len := 1) rfl (Or.inl rfl) ⟨sh51, a + 1, zq23 / 16, zq41 % 16, z66, rfl, (by omega), (by omega), s60, (by omega), (by omega), eh51, (by omega), (by omega), ez66, (by omega), (by omega), (by omega)⟩
        · refine gy_icF rfl (by decide) (by decide) (by omega) (by omega) hc65 ?_
          refine gz_s 1 (pc' := 117) (L' := [some (.ref x), some (.int (zi n)), some (.int (zi a)), some (.ref b1), some (.int (zi 1))]) (S' := [.ref b1]) rfl ?_
          refine gs_gtk rfl (by decide) rfl sh51.1 tb1 rfl rfl eh51 ?_
          refine gz_s 1 (pc' := 121) (L' := [some (.ref x), some (.int (zi n)), some (.int (zi a)), some (.ref b1), some (.int (zi 1))]) (S' := [.int (zi 2), .int (zi (zq41 % 16))]) rfl ?_
          by_cases hc67 : (zq41 % 16 : Int) ≤ 2
          · refine gy_icT (pc' := 128) rfl (by decide) (by decide) (by omega) (by omega) hc67 ?_
            refine gz_s 2 (pc' := 130) (L' := [some (.ref x), some (.int (zi n)), some (.int (zi a)), some (.ref b1), some (.int (zi 1))]) (S' := [.ref x, .ref b1]) rfl ?_
            refine gs_gtk rfl (by decide) rfl sh51.1 tx rfl rfl s52 ?_
            refine gy_s 3 (pc' := 136) (L' := [some (.ref x), some (.int (zi n)), some (.int (zi a)), some (.ref b1), some (.int (zi 1))]) (S' := [.int ((zi a) + (zi 2)), .ref src, .ref b1]) (L2 := [some (.ref x), some (.int (zi n)), some (.int (zi a)), some (.ref b1), some (.int (zi 1))]) (S2 := [.int (zi (a + 2)), .ref src, .ref b1]) rfl (by simp only [zi_add, zi_sub, zi_mul, zi_neg, zi_and1, zi_and7, zi_and15, zi_and31, zi_and255, Int.reduceAdd, Int.reduceMul, Int.reduceSub]) (by simp only [zi_add, zi_sub, zi_mul, zi_neg, zi_and1, zi_and7, zi_and15, zi_and31, zi_and255, Int.reduceAdd, Int.reduceMul, Int.reduceSub]) ?_
            refine gz_call rfl (by decide) rfl (by decide) (by decide) (gcal_of rfl rfl rfl (Nat.le_of_ble_eq_true rfl) (gJ.recv (G := gGG) sh51.1 tsrc rfl rfl)) (cl_Collected_byteAt _ sh51.1 src tsrc (a + 2) (by omega) sz s57 (by omega) uq) (fun q68 _ wq68 => ?_)
            obtain ⟨pq68, oq68, hq68⟩ := q68
            obtain ⟨xq68, zq68, gq68, aq68, bq68, uq68_0⟩ := wq68
            refine ⟨_, gq68, ?_⟩
            show gz gPP gGG gcn _ _ 139 [some (.ref x), some (.int (zi n)), some (.int (zi a)), some (.ref b1), some (.int (zi 1))] [.int (zi zq68), .ref b1] hq68 _
            have sq68 : gSs rT 1027 ty [83000, 83001, 83002, 83003] h hq68 := gSs.tr sh51 xq68 (by decide)
            have s69 := (xq68.2.2.2.2.2 x 0 (by rw [tx]; decide)).trans s52
            have s70 := (xq68.2.2.2.2.2 x 1 (by rw [tx]; decide)).trans s53
            have s71 := (xq68.2.2.2.2.2 pic 0 (by rw [tpic]; decide)).trans s54
            have s72 := (xq68.2.2.2.2.2 bn 0 (by rw [tbn]; decide)).trans s55
            have s73 := (xq68.2.2.2.2.2 bn 1 (by rw [tbn]; decide)).trans s56
            have s74 := (xq68.2.2.2.2.2 src 1 (by rw [tsrc]; decide)).trans s57
            have s75 := (xq68.2.2.2.2.2 b1 0 (by rw [tb1]; decide)).trans s58
            have s76 := (xq68.2.2.2.2.2 b0 0 (by rw [tb0]; decide)).trans s59
            have s77 := (xq68.2.2.2.2.2 b1 1 (by rw [tb1]; decide)).trans s60
            have s78 := (xq68.2.2.2.2.2 b1 2 (by rw [tb1]; decide)).trans eh51
            refine gs_put rfl (by decide) rfl sq68 tb1 rfl rfl rfl rfl (Or.inl rfl) (by decide) (by omega) (by omega) (fun h79 sh79 eh79 fh79 => ?_)
            have s80 := (fh79 x 0 (fun q => absurd q.2 (by decide))).trans s69
            have s81 := (fh79 x 1 (fun q => absurd q.2 (by decide))).trans s70
            have s82 := (fh79 pic 0 (fun q => absurd q.2 (by decide))).trans s71
            have s83 := (fh79 bn 0 (fun q => absurd (((tbn).symm.trans (congrArg ty q.1)).trans tb1) (by decide))).trans s72
            have s84 := (fh79 bn 1 (fun q => absurd (((tbn).symm.trans (congrArg ty q.1)).trans tb1) (by decide))).trans s73
            have s85 := (fh79 src 1 (fun q => absurd q.2 (by decide))).trans s74
            have s86 := (fh79 b1 0 (fun q => absurd q.2 (by decide))).trans s75
            have s87 := (fh79 b0 0 (fun q => absurd q.2 (by decide))).trans s76
            have s88 := (fh79 b1 1 (fun q => absurd q.2 (by decide))).trans s77
            have s89 := (fh79 b1 2 (fun q => absurd q.2 (by decide))).trans s78
            refine gz_s 1 (pc' := 143) (L' := [some (.ref x), some (.int (zi n)), some (.int (zi a)), some (.ref b1), some (.int (zi 1))]) (S' := [.ref b1]) rfl ?_
            refine gs_gtk rfl (by decide) rfl sh79.1 tb1 rfl rfl eh79 ?_
            by_cases hc90 : (zq68 : Int) < 0
            · refine gy_ifT (pc' := 157) rfl (by decide) (by decide) (by omega) hc90 ?_
              refine gy_s 4 (pc' := 164) (L' := [some (.ref x), some (.int (zi n)), some (.int (zi a)), some (.ref b1), some (.int (zi 1))]) (S' := [.int ((zi a) + (zi 2))]) (L2 := [some (.ref x), some (.int (zi n)), some (.int (zi a)), some (.ref b1), some (.int (zi 1))]) (S2 := [.int (zi (a + 2))]) rfl (by simp only [zi_add, zi_sub, zi_mul, zi_neg, zi_and1, zi_and7, zi_and15, zi_and31, zi_and255, Int.reduceAdd, Int.reduceMul, Int.reduceSub]) (by simp only [zi_add, zi_sub, zi_mul, zi_neg, zi_and1, zi_and7, zi_and15, zi_and31, zi_and255, Int.reduceAdd, Int.reduceMul, Int.reduceSub]) ?_
              exact gz_end (I := .ireturn) (len := 1) rfl (Or.inl rfl) ⟨sh79, a + 2, zq23 / 16, zq41 % 16, zq68, rfl, (by omega), (by omega), s88, (by omega), (by omega), s89, (by omega), (by omega), eh79, (by omega), (by omega), (by omega)⟩
            · refine gy_ifF rfl (by decide) (by decide) (by omega) hc90 ?_
              refine gz_s 1 (pc' := 150) (L' := [some (.ref x), some (.int (zi n)), some (.int (zi a)), some (.ref b1), some (.int (zi 1))]) (S' := [.ref b1]) rfl ?_
              refine gs_gtk rfl (by decide) rfl sh79.1 tb1 rfl rfl eh79 ?_
              refine gz_s 1 (pc' := 154) (L' := [some (.ref x), some (.int (zi n)), some (.int (zi a)), some (.ref b1), some (.int (zi 1))]) (S' := [.int (zi 4), .int (zi zq68)]) rfl ?_
              by_cases hc91 : (zq68 : Int) < 4
              · refine gy_icT (pc' := 163) rfl (by decide) (by decide) (by omega) (by omega) hc91 ?_
                refine gz_s 1 (pc' := 164) (L' := [some (.ref x), some (.int (zi n)), some (.int (zi a)), some (.ref b1), some (.int (zi 1))]) (S' := [.int (zi (-1))]) rfl ?_
                exact gz_end (I := .ireturn) (len := 1) rfl (Or.inl rfl) ⟨sh79, (-1), zq23 / 16, zq41 % 16, zq68, rfl, (by omega), (by omega), s88, (by omega), (by omega), s89, (by omega), (by omega), eh79, (by omega), (by omega), (by omega)⟩
              · refine gy_icF rfl (by decide) (by decide) (by omega) (by omega) hc91 ?_
                refine gy_s 4 (pc' := 164) (L' := [some (.ref x), some (.int (zi n)), some (.int (zi a)), some (.ref b1), some (.int (zi 1))]) (S' := [.int ((zi a) + (zi 2))]) (L2 := [some (.ref x), some (.int (zi n)), some (.int (zi a)), some (.ref b1), some (.int (zi 1))]) (S2 := [.int (zi (a + 2))]) rfl (by simp only [zi_add, zi_sub, zi_mul, zi_neg, zi_and1, zi_and7, zi_and15, zi_and31, zi_and255, Int.reduceAdd, Int.reduceMul, Int.reduceSub]) (by simp only [zi_add, zi_sub, zi_mul, zi_neg, zi_and1, zi_and7, zi_and15, zi_and31, zi_and255, Int.reduceAdd, Int.reduceMul, Int.reduceSub]) ?_
                exact gz_end (I := .ireturn) (len := 1) rfl (Or.inl rfl) ⟨sh79, a + 2, zq23 / 16, zq41 % 16, zq68, rfl, (by omega), (by omega), s88, (by omega), (by omega), s89, (by omega), (by omega), eh79, (by omega), (by omega), (by omega)⟩
          · refine gy_icF rfl (by decide) (by decide) (by omega) (by omega) hc67 ?_
            refine gy_s 3 (pc' := 127) (L' := [some (.ref x), some (.int (zi n)), some (.int (zi a)), some (.ref b1), some (.int (zi 1))]) (S' := [.int ((zi a) + (zi 1))]) (L2 := [some (.ref x), some (.int (zi n)), some (.int (zi a)), some (.ref b1), some (.int (zi 1))]) (S2 := [.int (zi (a + 1))]) rfl (by simp only [zi_add, zi_sub, zi_mul, zi_neg, zi_and1, zi_and7, zi_and15, zi_and31, zi_and255, Int.reduceAdd, Int.reduceMul, Int.reduceSub]) (by simp only [zi_add, zi_sub, zi_mul, zi_neg, zi_and1, zi_and7, zi_and15, zi_and31, zi_and255, Int.reduceAdd, Int.reduceMul, Int.reduceSub]) ?_
            obtain ⟨z92, ez92, az92, bz92⟩ := gJ.int (k := 3) (G := gGG) sh51.1 tb1 rfl rfl rfl
            exact gz_end (I := .ireturn) (len := 1) rfl (Or.inl rfl) ⟨sh51, a + 1, zq23 / 16, zq41 % 16, z92, rfl, (by omega), (by omega), s60, (by omega), (by omega), eh51, (by omega), (by omega), ez92, (by omega), (by omega), (by omega)⟩
  · refine gy_icF rfl (by decide) (by decide) (by omega) (by omega) hc22 ?_
    refine gz_s 1 (pc' := 52) (L' := [some (.ref x), some (.int (zi n)), some (.int (zi a)), some (.ref b1), some (.int (zi 0))]) (S' := [.int (zi a)]) rfl ?_
    obtain ⟨z93, ez93, az93, bz93⟩ := gJ.int (k := 1) (G := gGG) sh11.1 tb1 rfl rfl rfl
    obtain ⟨z94, ez94, az94, bz94⟩ := gJ.int (k := 2) (G := gGG) sh11.1 tb1 rfl rfl rfl
    obtain ⟨z95, ez95, az95, bz95⟩ := gJ.int (k := 3) (G := gGG) sh11.1 tb1 rfl rfl rfl
    exact gz_end (I := .ireturn) (len := 1) rfl (Or.inl rfl) ⟨sh11, a, z93, z94, z95, rfl, (by omega), (by omega), ez93, (by omega), (by omega), ez94, (by omega), (by omega), ez95, (by omega), (by omega), (by omega)⟩
set_option maxRecDepth 20000 in
set_option maxHeartbeats 4000000 in
theorem cl_readBand2 (d : Nat) {ty : Nat → Nat} {h : gH} (hJ : gJ rT 1027 ty h) (x : Nat) (tx : ty x = 65) (n : Int) (rn : 2 ≤ n ∧ n ≤ 2) (a : Int) (ra : 0 ≤ a ∧ a ≤ 4100) (src : Nat) (esrc : h.2.2.2.2 x 0 = .ref src) (tsrc : ty src = 51) (pic : Nat) (epic : h.2.2.2.2 x 1 = .ref pic) (tpic : ty pic = 54) (bn : Nat) (ebn : h.2.2.2.2 pic 0 = .ref bn) (tbn : ty bn = 57) (b0 : Nat) (eb0 : h.2.2.2.2 bn 0 = .ref b0) (tb0 : ty b0 = 82) (b1 : Nat) (eb1 : h.2.2.2.2 bn 1 = .ref b1) (tb1 : ty b1 = 83) (b2 : Nat) (eb2 : h.2.2.2.2 bn 2 = .ref b2) (tb2 : ty b2 = 84) (sz : Int) (esz : h.2.2.2.2 src 1 = .int (zi sz)) (rsz : 0 ≤ sz ∧ sz ≤ 2000) (uq : gUq ty) : gz gPP gGG gcn (d + 1) gt30 0 (gent [.ref x, .int (zi n), .int (zi a)] 5) [] h (fun q _ => gSs rT 1027 ty [84000, 84001, 84002, 84003] h q.2.2 ∧ ∃ z hb vb tb : Int, gfin gt30 q.1 q.2.1 = some (some (.int (zi z))) ∧ (-1) ≤ z ∧ z ≤ 4200 ∧ q.2.2.2.2.2.2 b2 1 = .int (zi hb) ∧ (-1) ≤ hb ∧ hb ≤ 15 ∧ q.2.2.2.2.2.2 b2 2 = .int (zi vb) ∧ 0 ≤ vb ∧ vb ≤ 15 ∧ q.2.2.2.2.2.2 b2 3 = .int (zi tb) ∧ (-1) ≤ tb ∧ tb ≤ 255 ∧ (z = -1 → (1 ≤ hb ∧ hb ≤ 2 ∧ 1 ≤ vb ∧ vb ≤ 2 ∧ 0 ≤ tb ∧ tb ≤ 3))) := by
  have hS : gSs rT 1027 ty [84000, 84001, 84002, 84003] h h := gSs.rf hJ
  refine gz_s 1 (pc' := 1) (L' := [some (.ref x), some (.int (zi n)), some (.int (zi a)), none, none]) (S' := [.ref x]) rfl ?_
  refine gs_gtk rfl (by decide) rfl hS.1 tx rfl rfl epic ?_
  refine gs_gtk rfl (by decide) rfl hS.1 tpic rfl rfl ebn ?_
  refine gz_s 1 (pc' := 8) (L' := [some (.ref x), some (.int (zi n)), some (.int (zi a)), none, none]) (S' := [.int (zi n), .ref bn]) rfl ?_
  have he3 : (n : Int) = 2 := by omega
  refine gs_aak (j := 2) rfl (by decide) hS.1 tbn rfl rfl rfl (by decide) he3 (by decide) eb2 ?_
  refine gz_s 3 (pc' := 12) (L' := [some (.ref x), some (.int (zi n)), some (.int (zi a)), some (.ref b2), none]) (S' := [.ref x, .ref b2]) rfl ?_
  refine gs_gtk rfl (by decide) rfl hS.1 tx rfl rfl esrc ?_
  refine gz_s 1 (pc' := 16) (L' := [some (.ref x), some (.int (zi n)), some (.int (zi a)), some (.ref b2), none]) (S' := [.int (zi a), .ref src, .ref b2]) rfl ?_
  refine gz_call rfl (by decide) rfl (by decide) (by decide) (gcal_of rfl rfl rfl (Nat.le_of_ble_eq_true rfl) (gJ.recv (G := gGG) hS.1 tsrc rfl rfl)) (cl_Collected_byteAt _ hS.1 src tsrc a (by omega) sz esz (by omega) uq) (fun q4 _ wq4 => ?_)
  obtain ⟨pq4, oq4, hq4⟩ := q4
  obtain ⟨xq4, zq4, gq4, aq4, bq4, uq4_0⟩ := wq4
  refine ⟨_, gq4, ?_⟩
  show gz gPP gGG gcn _ _ 19 [some (.ref x), some (.int (zi n)), some (.int (zi a)), some (.ref b2), none] [.int (zi zq4), .ref b2] hq4 _
  have sq4 : gSs rT 1027 ty [84000, 84001, 84002, 84003] h hq4 := gSs.tr hS xq4 (by decide)
  have s5 := (xq4.2.2.2.2.2 x 0 (by rw [tx]; decide)).trans esrc
  have s6 := (xq4.2.2.2.2.2 x 1 (by rw [tx]; decide)).trans epic
  have s7 := (xq4.2.2.2.2.2 pic 0 (by rw [tpic]; decide)).trans ebn
  have s8 := (xq4.2.2.2.2.2 bn 0 (by rw [tbn]; decide)).trans eb0
  have s9 := (xq4.2.2.2.2.2 bn 1 (by rw [tbn]; decide)).trans eb1
  have s10 := (xq4.2.2.2.2.2 bn 2 (by rw [tbn]; decide)).trans eb2
  have s11 := (xq4.2.2.2.2.2 src 1 (by rw [tsrc]; decide)).trans esz
  refine gs_put rfl (by decide) rfl sq4 tb2 rfl rfl rfl rfl (Or.inl rfl) (by decide) (by omega) (by omega) (fun h12 sh12 eh12 fh12 => ?_)
  have s13 := (fh12 x 0 (fun q => absurd (((tx).symm.trans (congrArg ty q.1)).trans tb2) (by decide))).trans s5
  have s14 := (fh12 x 1 (fun q => absurd q.2 (by decide))).trans s6
  have s15 := (fh12 pic 0 (fun q => absurd (((tpic).symm.trans (congrArg ty q.1)).trans tb2) (by decide))).trans s7
  have s16 := (fh12 bn 0 (fun q => absurd (((tbn).symm.trans (congrArg ty q.1)).trans tb2) (by decide))).trans s8
  have s17 := (fh12 bn 1 (fun q => absurd (((tbn).symm.trans (congrArg ty q.1)).trans tb2) (by decide))).trans s9
  have s18 := (fh12 bn 2 (fun q => absurd (((tbn).symm.trans (congrArg ty q.1)).trans tb2) (by decide))).trans s10
  have s19 := (fh12 src 1 (fun q => absurd q.2 (by decide))).trans s11
  refine gz_s 4 (pc' := 28) (L' := [some (.ref x), some (.int (zi n)), some (.int (zi a)), some (.ref b2), some (.int (zi 0))]) (S' := [.int (zi n), .int (zi 0)]) rfl ?_
  refine gy_icF rfl (by decide) (by decide) (by omega) (by omega) (by first | (simp [zc]; done) | (simp only [zc]; omega)) ?_
  refine gz_s 1 (pc' := 32) (L' := [some (.ref x), some (.int (zi n)), some (.int (zi a)), some (.ref b2), some (.int (zi 0))]) (S' := [.ref x]) rfl ?_
  refine gs_gtk rfl (by decide) rfl sh12.1 tx rfl rfl s14 ?_
  refine gs_gtk rfl (by decide) rfl sh12.1 tpic rfl rfl s15 ?_
  refine gz_s 1 (pc' := 40) (L' := [some (.ref x), some (.int (zi n)), some (.int (zi a)), some (.ref b2), some (.int (zi 0))]) (S' := [.int (zi 0), .ref bn]) rfl ?_
  have he22 : (0 : Int) = 0 := by omega
  refine gs_aak (j := 0) rfl (by decide) sh12.1 tbn rfl rfl rfl (by decide) he22 (by decide) s16 ?_
  refine gs_get rfl (by decide) rfl sh12.1 tb0 rfl rfl rfl (fun z23 ez23 az23 bz23 => ?_)
  refine gz_s 1 (pc' := 45) (L' := [some (.ref x), some (.int (zi n)), some (.int (zi a)), some (.ref b2), some (.int (zi 0))]) (S' := [.ref b2, .int (zi z23)]) rfl ?_
  refine gs_gtk rfl (by decide) rfl sh12.1 tb2 rfl rfl eh12 ?_
  by_cases hc24 : ¬ (z23 : Int) = zq4
  · refine gy_icT (pc' := 53) rfl (by decide) (by decide) (by omega) (by omega) hc24 ?_
    refine gy_s 4 (pc' := 28) (L' := [some (.ref x), some (.int (zi n)), some (.int (zi a)), some (.ref b2), some (.int ((zi 0) + zi 1))]) (S' := [.int (zi n), .int ((zi 0) + zi 1)]) (L2 := [some (.ref x), some (.int (zi n)), some (.int (zi a)), some (.ref b2), some (.int (zi 1))]) (S2 := [.int (zi n), .int (zi 1)]) rfl (by simp only [zi_add, zi_sub, zi_mul, zi_neg, zi_and1, zi_and7, zi_and15, zi_and31, zi_and255, Int.reduceAdd, Int.reduceMul, Int.reduceSub]) (by simp only [zi_add, zi_sub, zi_mul, zi_neg, zi_and1, zi_and7, zi_and15, zi_and31, zi_and255, Int.reduceAdd, Int.reduceMul, Int.reduceSub]) ?_
    refine gy_icF rfl (by decide) (by decide) (by omega) (by omega) (by first | (simp [zc]; done) | (simp only [zc]; omega)) ?_
    refine gz_s 1 (pc' := 32) (L' := [some (.ref x), some (.int (zi n)), some (.int (zi a)), some (.ref b2), some (.int (zi 1))]) (S' := [.ref x]) rfl ?_
    refine gs_gtk rfl (by decide) rfl sh12.1 tx rfl rfl s14 ?_
    refine gs_gtk rfl (by decide) rfl sh12.1 tpic rfl rfl s15 ?_
    refine gz_s 1 (pc' := 40) (L' := [some (.ref x), some (.int (zi n)), some (.int (zi a)), some (.ref b2), some (.int (zi 1))]) (S' := [.int (zi 1), .ref bn]) rfl ?_
    have he27 : (1 : Int) = 1 := by omega
    refine gs_aak (j := 1) rfl (by decide) sh12.1 tbn rfl rfl rfl (by decide) he27 (by decide) s17 ?_
    refine gs_get rfl (by decide) rfl sh12.1 tb1 rfl rfl rfl (fun z28 ez28 az28 bz28 => ?_)
    refine gz_s 1 (pc' := 45) (L' := [some (.ref x), some (.int (zi n)), some (.int (zi a)), some (.ref b2), some (.int (zi 1))]) (S' := [.ref b2, .int (zi z28)]) rfl ?_
    refine gs_gtk rfl (by decide) rfl sh12.1 tb2 rfl rfl eh12 ?_
    by_cases hc29 : ¬ (z28 : Int) = zq4
    · refine gy_icT (pc' := 53) rfl (by decide) (by decide) (by omega) (by omega) hc29 ?_
      refine gy_s 4 (pc' := 28) (L' := [some (.ref x), some (.int (zi n)), some (.int (zi a)), some (.ref b2), some (.int ((zi 1) + zi 1))]) (S' := [.int (zi n), .int ((zi 1) + zi 1)]) (L2 := [some (.ref x), some (.int (zi n)), some (.int (zi a)), some (.ref b2), some (.int (zi 2))]) (S2 := [.int (zi n), .int (zi 2)]) rfl (by simp only [zi_add, zi_sub, zi_mul, zi_neg, zi_and1, zi_and7, zi_and15, zi_and31, zi_and255, Int.reduceAdd, Int.reduceMul, Int.reduceSub]) (by simp only [zi_add, zi_sub, zi_mul, zi_neg, zi_and1, zi_and7, zi_and15, zi_and31, zi_and255, Int.reduceAdd, Int.reduceMul, Int.reduceSub]) ?_
      refine gy_icT (pc' := 59) rfl (by decide) (by decide) (by omega) (by omega) (by first | (simp [zc]; done) | (simp only [zc]; omega)) ?_
      refine gz_s 2 (pc' := 61) (L' := [some (.ref x), some (.int (zi n)), some (.int (zi a)), some (.ref b2), some (.int (zi 2))]) (S' := [.ref x, .ref b2]) rfl ?_
      refine gs_gtk rfl (by decide) rfl sh12.1 tx rfl rfl s13 ?_
      refine gy_s 3 (pc' := 67) (L' := [some (.ref x), some (.int (zi n)), some (.int (zi a)), some (.ref b2), some (.int (zi 2))]) (S' := [.int ((zi a) + (zi 1)), .ref src, .ref b2]) (L2 := [some (.ref x), some (.int (zi n)), some (.int (zi a)), some (.ref b2), some (.int (zi 2))]) (S2 := [.int (zi (a + 1)), .ref src, .ref b2]) rfl (by simp only [zi_add, zi_sub, zi_mul, zi_neg, zi_and1, zi_and7, zi_and15, zi_and31, zi_and255, Int.reduceAdd, Int.reduceMul, Int.reduceSub]) (by simp only [zi_add, zi_sub, zi_mul, zi_neg, zi_and1, zi_and7, zi_and15, zi_and31, zi_and255, Int.reduceAdd, Int.reduceMul, Int.reduceSub]) ?_
      refine gz_call rfl (by decide) rfl (by decide) (by decide) (gcal_of rfl rfl rfl (Nat.le_of_ble_eq_true rfl) (gJ.recv (G := gGG) sh12.1 tsrc rfl rfl)) (cl_Collected_byteAt _ sh12.1 src tsrc (a + 1) (by omega) sz s19 (by omega) uq) (fun q30 _ wq30 => ?_)
      obtain ⟨pq30, oq30, hq30⟩ := q30
      obtain ⟨xq30, zq30, gq30, aq30, bq30, uq30_0⟩ := wq30
      refine ⟨_, gq30, ?_⟩
      show gz gPP gGG gcn _ _ 70 [some (.ref x), some (.int (zi n)), some (.int (zi a)), some (.ref b2), some (.int (zi 2))] [.int (zi zq30), .ref b2] hq30 _
      have sq30 : gSs rT 1027 ty [84000, 84001, 84002, 84003] h hq30 := gSs.tr sh12 xq30 (by decide)
      have s31 := (xq30.2.2.2.2.2 x 0 (by rw [tx]; decide)).trans s13
      have s32 := (xq30.2.2.2.2.2 x 1 (by rw [tx]; decide)).trans s14
      have s33 := (xq30.2.2.2.2.2 pic 0 (by rw [tpic]; decide)).trans s15
      have s34 := (xq30.2.2.2.2.2 bn 0 (by rw [tbn]; decide)).trans s16
      have s35 := (xq30.2.2.2.2.2 bn 1 (by rw [tbn]; decide)).trans s17
      have s36 := (xq30.2.2.2.2.2 bn 2 (by rw [tbn]; decide)).trans s18
      have s37 := (xq30.2.2.2.2.2 src 1 (by rw [tsrc]; decide)).trans s19
      have s38 := (xq30.2.2.2.2.2 b2 0 (by rw [tb2]; decide)).trans eh12
      have s39 := (xq30.2.2.2.2.2 b0 0 (by rw [tb0]; decide)).trans ez23
      have s40 := (xq30.2.2.2.2.2 b1 0 (by rw [tb1]; decide)).trans ez28
      refine gz_s 1 (pc' := 71) (L' := [some (.ref x), some (.int (zi n)), some (.int (zi a)), some (.ref b2), some (.int (zi 2))]) (S' := [.int (zi 4), .int (zi zq30), .ref b2]) rfl ?_
      refine gy_shc (n := 4) (v := 16) rfl (by decide) (by omega) (by decide) (by decide) rfl ?_
      refine gs_put rfl (by decide) rfl sq30 tb2 rfl rfl rfl rfl (Or.inl rfl) (by decide) (by omega) (by omega) (fun h41 sh41 eh41 fh41 => ?_)
      have s42 := (fh41 x 0 (fun q => absurd q.2 (by decide))).trans s31
      have s43 := (fh41 x 1 (fun q => absurd (((tx).symm.trans (congrArg ty q.1)).trans tb2) (by decide))).trans s32
      have s44 := (fh41 pic 0 (fun q => absurd q.2 (by decide))).trans s33
      have s45 := (fh41 bn 0 (fun q => absurd (((tbn).symm.trans (congrArg ty q.1)).trans tb2) (by decide))).trans s34
      have s46 := (fh41 bn 1 (fun q => absurd (((tbn).symm.trans (congrArg ty q.1)).trans tb2) (by decide))).trans s35
      have s47 := (fh41 bn 2 (fun q => absurd (((tbn).symm.trans (congrArg ty q.1)).trans tb2) (by decide))).trans s36
      have s48 := (fh41 src 1 (fun q => absurd (((tsrc).symm.trans (congrArg ty q.1)).trans tb2) (by decide))).trans s37
      have s49 := (fh41 b2 0 (fun q => absurd q.2 (by decide))).trans s38
      have s50 := (fh41 b0 0 (fun q => absurd q.2 (by decide))).trans s39
      have s51 := (fh41 b1 0 (fun q => absurd q.2 (by decide))).trans s40
      refine gz_s 2 (pc' := 77) (L' := [some (.ref x), some (.int (zi n)), some (.int (zi a)), some (.ref b2), some (.int (zi 2))]) (S' := [.ref x, .ref b2]) rfl ?_
      refine gs_gtk rfl (by decide) rfl sh41.1 tx rfl rfl s42 ?_
      refine gy_s 3 (pc' := 83) (L' := [some (.ref x), some (.int (zi n)), some (.int (zi a)), some (.ref b2), some (.int (zi 2))]) (S' := [.int ((zi a) + (zi 1)), .ref src, .ref b2]) (L2 := [some (.ref x), some (.int (zi n)), some (.int (zi a)), some (.ref b2), some (.int (zi 2))]) (S2 := [.int (zi (a + 1)), .ref src, .ref b2]) rfl (by simp only [zi_add, zi_sub, zi_mul, zi_neg, zi_and1, zi_and7, zi_and15, zi_and31, zi_and255, Int.reduceAdd, Int.reduceMul, Int.reduceSub]) (by simp only [zi_add, zi_sub, zi_mul, zi_neg, zi_and1, zi_and7, zi_and15, zi_and31, zi_and255, Int.reduceAdd, Int.reduceMul, Int.reduceSub]) ?_
      refine gz_call rfl (by decide) rfl (by decide) (by decide) (gcal_of rfl rfl rfl (Nat.le_of_ble_eq_true rfl) (gJ.recv (G := gGG) sh41.1 tsrc rfl rfl)) (cl_Collected_byteAt _ sh41.1 src tsrc (a + 1) (by omega) sz s48 (by omega) uq) (fun q52 _ wq52 => ?_)
      obtain ⟨pq52, oq52, hq52⟩ := q52
      obtain ⟨xq52, zq52, gq52, aq52, bq52, uq52_0⟩ := wq52
      refine ⟨_, gq52, ?_⟩
      show gz gPP gGG gcn _ _ 86 [some (.ref x), some (.int (zi n)), some (.int (zi a)), some (.ref b2), some (.int (zi 2))] [.int (zi zq52), .ref b2] hq52 _
      have sq52 : gSs rT 1027 ty [84000, 84001, 84002, 84003] h hq52 := gSs.tr sh41 xq52 (by decide)
      have s53 := (xq52.2.2.2.2.2 x 0 (by rw [tx]; decide)).trans s42
      have s54 := (xq52.2.2.2.2.2 x 1 (by rw [tx]; decide)).trans s43
      have s55 := (xq52.2.2.2.2.2 pic 0 (by rw [tpic]; decide)).trans s44
      have s56 := (xq52.2.2.2.2.2 bn 0 (by rw [tbn]; decide)).trans s45
      have s57 := (xq52.2.2.2.2.2 bn 1 (by rw [tbn]; decide)).trans s46
      have s58 := (xq52.2.2.2.2.2 bn 2 (by rw [tbn]; decide)).trans s47
      have s59 := (xq52.2.2.2.2.2 src 1 (by rw [tsrc]; decide)).trans s48
      have s60 := (xq52.2.2.2.2.2 b2 0 (by rw [tb2]; decide)).trans s49
      have s61 := (xq52.2.2.2.2.2 b0 0 (by rw [tb0]; decide)).trans s50
      have s62 := (xq52.2.2.2.2.2 b1 0 (by rw [tb1]; decide)).trans s51
      have s63 := (xq52.2.2.2.2.2 b2 1 (by rw [tb2]; decide)).trans eh41
      refine gy_s 2 (pc' := 89) (L' := [some (.ref x), some (.int (zi n)), some (.int (zi a)), some (.ref b2), some (.int (zi 2))]) (S' := [.int ((zi zq52) &&& (zi 15)), .ref b2]) (L2 := [some (.ref x), some (.int (zi n)), some (.int (zi a)), some (.ref b2), some (.int (zi 2))]) (S2 := [.int (zi (zq52 % 16)), .ref b2]) rfl (by simp only [zi_add, zi_sub, zi_mul, zi_neg, zi_and1, zi_and7, zi_and15, zi_and31, zi_and255, Int.reduceAdd, Int.reduceMul, Int.reduceSub]) (by simp only [zi_add, zi_sub, zi_mul, zi_neg, zi_and1, zi_and7, zi_and15, zi_and31, zi_and255, Int.reduceAdd, Int.reduceMul, Int.reduceSub]) ?_
      refine gs_put rfl (by decide) rfl sq52 tb2 rfl rfl rfl rfl (Or.inl rfl) (by decide) (by omega) (by omega) (fun h64 sh64 eh64 fh64 => ?_)
      have s65 := (fh64 x 0 (fun q => absurd q.2 (by decide))).trans s53
      have s66 := (fh64 x 1 (fun q => absurd q.2 (by decide))).trans s54
      have s67 := (fh64 pic 0 (fun q => absurd q.2 (by decide))).trans s55
      have s68 := (fh64 bn 0 (fun q => absurd (((tbn).symm.trans (congrArg ty q.1)).trans tb2) (by decide))).trans s56
      have s69 := (fh64 bn 1 (fun q => absurd (((tbn).symm.trans (congrArg ty q.1)).trans tb2) (by decide))).trans s57
      have s70 := (fh64 bn 2 (fun q => absurd (((tbn).symm.trans (congrArg ty q.1)).trans tb2) (by decide))).trans s58
      have s71 := (fh64 src 1 (fun q => absurd q.2 (by decide))).trans s59
      have s72 := (fh64 b2 0 (fun q => absurd q.2 (by decide))).trans s60
      have s73 := (fh64 b0 0 (fun q => absurd q.2 (by decide))).trans s61
      have s74 := (fh64 b1 0 (fun q => absurd q.2 (by decide))).trans s62
      have s75 := (fh64 b2 1 (fun q => absurd q.2 (by decide))).trans s63
      refine gz_s 1 (pc' := 93) (L' := [some (.ref x), some (.int (zi n)), some (.int (zi a)), some (.ref b2), some (.int (zi 2))]) (S' := [.ref b2]) rfl ?_
      refine gs_gtk rfl (by decide) rfl sh64.1 tb2 rfl rfl s75 ?_
      refine gz_s 1 (pc' := 97) (L' := [some (.ref x), some (.int (zi n)), some (.int (zi a)), some (.ref b2), some (.int (zi 2))]) (S' := [.int (zi 1), .int (zi (zq30 / 16))]) rfl ?_
      by_cases hc76 : (zq30 / 16 : Int) < 1
      · refine gy_icT (pc' := 124) rfl (by decide) (by decide) (by omega) (by omega) hc76 ?_
        refine gy_s 3 (pc' := 127) (L' := [some (.ref x), some (.int (zi n)), some (.int (zi a)), some (.ref b2), some (.int (zi 2))]) (S' := [.int ((zi a) + (zi 1))]) (L2 := [some (.ref x), some (.int (zi n)), some (.int (zi a)), some (.ref b2), some (.int (zi 2))]) (S2 := [.int (zi (a + 1))]) rfl (by simp only [zi_add, zi_sub, zi_mul, zi_neg, zi_and1, zi_and7, zi_and15, zi_and31, zi_and255, Int.reduceAdd, Int.reduceMul, Int.reduceSub]) (by simp only [zi_add, zi_sub, zi_mul, zi_neg, zi_and1, zi_and7, zi_and15, zi_and31, zi_and255, Int.reduceAdd, Int.reduceMul, Int.reduceSub]) ?_
        obtain ⟨z77, ez77, az77, bz77⟩ := gJ.int (k := 3) (G := gGG) sh64.1 tb2 rfl rfl rfl
        exact gz_end (I := .ireturn) (len := 1) rfl (Or.inl rfl) ⟨sh64, a + 1, zq30 / 16, zq52 % 16, z77, rfl, (by omega), (by omega), s75, (by omega), (by omega), eh64, (by omega), (by omega), ez77, (by omega), (by omega), (by omega)⟩
      · refine gy_icF rfl (by decide) (by decide) (by omega) (by omega) hc76 ?_
        refine gz_s 1 (pc' := 101) (L' := [some (.ref x), some (.int (zi n)), some (.int (zi a)), some (.ref b2), some (.int (zi 2))]) (S' := [.ref b2]) rfl ?_
        refine gs_gtk rfl (by decide) rfl sh64.1 tb2 rfl rfl s75 ?_
        refine gz_s 1 (pc' := 105) (L' := [some (.ref x), some (.int (zi n)), some (.int (zi a)), some (.ref b2), some (.int (zi 2))]) (S' := [.int (zi 2), .int (zi (zq30 / 16))]) rfl ?_
        by_cases hc78 : (2 : Int) < zq30 / 16
        · refine gy_icT (pc' := 124) rfl (by decide) (by decide) (by omega) (by omega) hc78 ?_
          refine gy_s 3 (pc' := 127) (L' := [some (.ref x), some (.int (zi n)), some (.int (zi a)), some (.ref b2), some (.int (zi 2))]) (S' := [.int ((zi a) + (zi 1))]) (L2 := [some (.ref x), some (.int (zi n)), some (.int (zi a)), some (.ref b2), some (.int (zi 2))]) (S2 := [.int (zi (a + 1))]) rfl (by simp only [zi_add, zi_sub, zi_mul, zi_neg, zi_and1, zi_and7, zi_and15, zi_and31, zi_and255, Int.reduceAdd, Int.reduceMul, Int.reduceSub]) (by simp only [zi_add, zi_sub, zi_mul, zi_neg, zi_and1, zi_and7, zi_and15, zi_and31, zi_and255, Int.reduceAdd, Int.reduceMul, Int.reduceSub]) ?_
          obtain ⟨z79, ez79, az79, bz79⟩ := gJ.int (k := 3) (G := gGG) sh64.1 tb2 rfl rfl rfl
          exact gz_end (I := .ireturn) (len := 1) rfl (Or.inl rfl) ⟨sh64, a + 1, zq30 / 16, zq52 % 16, z79, rfl, (by omega), (by omega), s75, (by omega), (by omega), eh64, (by omega), (by omega), ez79, (by omega), (by omega), (by omega)⟩
        · refine gy_icF rfl (by decide) (by decide) (by omega) (by omega) hc78 ?_
          refine gz_s 1 (pc' := 109) (L' := [some (.ref x), some (.int (zi n)), some (.int (zi a)), some (.ref b2), some (.int (zi 2))]) (S' := [.ref b2]) rfl ?_
          refine gs_gtk rfl (by decide) rfl sh64.1 tb2 rfl rfl eh64 ?_
          refine gz_s 1 (pc' := 113) (L' := [some (.ref x), some (.int (zi n)), some (.int (zi a)), some (.ref b2), some (.int (zi 2))]) (S' := [.int (zi 1), .int (zi (zq52 % 16))]) rfl ?_
          by_cases hc80 : (zq52 % 16 : Int) < 1
          · refine gy_icT (pc' := 124) rfl (by decide) (by decide) (by omega) (by omega) hc80 ?_
            refine gy_s 3 (pc' := 127) (L' := [some (.ref x), some (.int (zi n)), some (.int (zi a)), some (.ref b2), some (.int (zi 2))]) (S' := [.int ((zi a) + (zi 1))]) (L2 := [some (.ref x), some (.int (zi n)), some (.int (zi a)), some (.ref b2), some (.int (zi 2))]) (S2 := [.int (zi (a + 1))]) rfl (by simp only [zi_add, zi_sub, zi_mul, zi_neg, zi_and1, zi_and7, zi_and15, zi_and31, zi_and255, Int.reduceAdd, Int.reduceMul, Int.reduceSub]) (by simp only [zi_add, zi_sub, zi_mul, zi_neg, zi_and1, zi_and7, zi_and15, zi_and31, zi_and255, Int.reduceAdd, Int.reduceMul, Int.reduceSub]) ?_
            obtain ⟨z81, ez81, az81, bz81⟩ := gJ.int (k := 3) (G := gGG) sh64.1 tb2 rfl rfl rfl
            exact gz_end (I := .ireturn) (len := 1) rfl (Or.inl rfl) ⟨sh64, a + 1, zq30 / 16, zq52 % 16, z81, rfl, (by omega), (by omega), s75, (by omega), (by omega), eh64, (by omega), (by omega), ez81, (by omega), (by omega), (by omega)⟩
          · refine gy_icF rfl (by decide) (by decide) (by omega) (by omega) hc80 ?_
            refine gz_s 1 (pc' := 117) (L' := [some (.ref x), some (.int (zi n)), some (.int (zi a)), some (.ref b2), some (.int (zi 2))]) (S' := [.ref b2]) rfl ?_
            refine gs_gtk rfl (by decide) rfl sh64.1 tb2 rfl rfl eh64 ?_
            refine gz_s 1 (pc' := 121) (L' := [some (.ref x), some (.int (zi n)), some (.int (zi a)), some (.ref b2), some (.int (zi 2))]) (S' := [.int (zi 2), .int (zi (zq52 % 16))]) rfl ?_
            by_cases hc82 : (zq52 % 16 : Int) ≤ 2
            · refine gy_icT (pc' := 128) rfl (by decide) (by decide) (by omega) (by omega) hc82 ?_
              refine gz_s 2 (pc' := 130) (L' := [some (.ref x), some (.int (zi n)), some (.int (zi a)), some (.ref b2), some (.int (zi 2))]) (S' := [.ref x, .ref b2]) rfl ?_
              refine gs_gtk rfl (by decide) rfl sh64.1 tx rfl rfl s65 ?_
              refine gy_s 3 (pc' := 136) (L' := [some (.ref x), some (.int (zi n)), some (.int (zi a)), some (.ref b2), some (.int (zi 2))]) (S' := [.int ((zi a) + (zi 2)), .ref src, .ref b2]) (L2 := [some (.ref x), some (.int (zi n)), some (.int (zi a)), some (.ref b2), some (.int (zi 2))]) (S2 := [.int (zi (a + 2)), .ref src, .ref b2]) rfl (by simp only [zi_add, zi_sub, zi_mul, zi_neg, zi_and1, zi_and7, zi_and15, zi_and31, zi_and255, Int.reduceAdd, Int.reduceMul, Int.reduceSub]) (by simp only [zi_add, zi_sub, zi_mul, zi_neg, zi_and1, zi_and7, zi_and15, zi_and31, zi_and255, Int.reduceAdd, Int.reduceMul, Int.reduceSub]) ?_
              refine gz_call rfl (by decide) rfl (by decide) (by decide) (gcal_of rfl rfl rfl (Nat.le_of_ble_eq_true rfl) (gJ.recv (G := gGG) sh64.1 tsrc rfl rfl)) (cl_Collected_byteAt _ sh64.1 src tsrc (a + 2) (by omega) sz s71 (by omega) uq) (fun q83 _ wq83 => ?_)
              obtain ⟨pq83, oq83, hq83⟩ := q83
              obtain ⟨xq83, zq83, gq83, aq83, bq83, uq83_0⟩ := wq83
              refine ⟨_, gq83, ?_⟩
              show gz gPP gGG gcn _ _ 139 [some (.ref x), some (.int (zi n)), some (.int (zi a)), some (.ref b2), some (.int (zi 2))] [.int (zi zq83), .ref b2] hq83 _
              have sq83 : gSs rT 1027 ty [84000, 84001, 84002, 84003] h hq83 := gSs.tr sh64 xq83 (by decide)
              have s84 := (xq83.2.2.2.2.2 x 0 (by rw [tx]; decide)).trans s65
              have s85 := (xq83.2.2.2.2.2 x 1 (by rw [tx]; decide)).trans s66
              have s86 := (xq83.2.2.2.2.2 pic 0 (by rw [tpic]; decide)).trans s67
              have s87 := (xq83.2.2.2.2.2 bn 0 (by rw [tbn]; decide)).trans s68
              have s88 := (xq83.2.2.2.2.2 bn 1 (by rw [tbn]; decide)).trans s69
              have s89 := (xq83.2.2.2.2.2 bn 2 (by rw [tbn]; decide)).trans s70
              have s90 := (xq83.2.2.2.2.2 src 1 (by rw [tsrc]; decide)).trans s71
              have s91 := (xq83.2.2.2.2.2 b2 0 (by rw [tb2]; decide)).trans s72
              have s92 := (xq83.2.2.2.2.2 b0 0 (by rw [tb0]; decide)).trans s73
              have s93 := (xq83.2.2.2.2.2 b1 0 (by rw [tb1]; decide)).trans s74
              have s94 := (xq83.2.2.2.2.2 b2 1 (by rw [tb2]; decide)).trans s75
              have s95 := (xq83.2.2.2.2.2 b2 2 (by rw [tb2]; decide)).trans eh64
              refine gs_put rfl (by decide) rfl sq83 tb2 rfl rfl rfl rfl (Or.inl rfl) (by decide) (by omega) (by omega) (fun h96 sh96 eh96 fh96 => ?_)
              have s97 := (fh96 x 0 (fun q => absurd q.2 (by decide))).trans s84
              have s98 := (fh96 x 1 (fun q => absurd q.2 (by decide))).trans s85
              have s99 := (fh96 pic 0 (fun q => absurd q.2 (by decide))).trans s86
              have s100 := (fh96 bn 0 (fun q => absurd (((tbn).symm.trans (congrArg ty q.1)).trans tb2) (by decide))).trans s87
              have s101 := (fh96 bn 1 (fun q => absurd (((tbn).symm.trans (congrArg ty q.1)).trans tb2) (by decide))).trans s88
              have s102 := (fh96 bn 2 (fun q => absurd (((tbn).symm.trans (congrArg ty q.1)).trans tb2) (by decide))).trans s89
              have s103 := (fh96 src 1 (fun q => absurd q.2 (by decide))).trans s90
              have s104 := (fh96 b2 0 (fun q => absurd q.2 (by decide))).trans s91
              have s105 := (fh96 b0 0 (fun q => absurd q.2 (by decide))).trans s92
              have s106 := (fh96 b1 0 (fun q => absurd q.2 (by decide))).trans s93
              have s107 := (fh96 b2 1 (fun q => absurd q.2 (by decide))).trans s94
              have s108 := (fh96 b2 2 (fun q => absurd q.2 (by decide))).trans s95
              refine gz_s 1 (pc' := 143) (L' := [some (.ref x), some (.int (zi n)), some (.int (zi a)), some (.ref b2), some (.int (zi 2))]) (S' := [.ref b2]) rfl ?_
              refine gs_gtk rfl (by decide) rfl sh96.1 tb2 rfl rfl eh96 ?_
              by_cases hc109 : (zq83 : Int) < 0
              · refine gy_ifT (pc' := 157) rfl (by decide) (by decide) (by omega) hc109 ?_
                refine gy_s 4 (pc' := 164) (L' := [some (.ref x), some (.int (zi n)), some (.int (zi a)), some (.ref b2), some (.int (zi 2))]) (S' := [.int ((zi a) + (zi 2))]) (L2 := [some (.ref x), some (.int (zi n)), some (.int (zi a)), some (.ref b2), some (.int (zi 2))]) (S2 := [.int (zi (a + 2))]) rfl (by simp only [zi_add, zi_sub, zi_mul, zi_neg, zi_and1, zi_and7, zi_and15, zi_and31, zi_and255, Int.reduceAdd, Int.reduceMul, Int.reduceSub]) (by simp only [zi_add, zi_sub, zi_mul, zi_neg, zi_and1, zi_and7, zi_and15, zi_and31, zi_and255, Int.reduceAdd, Int.reduceMul, Int.reduceSub]) ?_
                exact gz_end (I := .ireturn) (len := 1) rfl (Or.inl rfl) ⟨sh96, a + 2, zq30 / 16, zq52 % 16, zq83, rfl, (by omega), (by omega), s107, (by omega), (by omega), s108, (by omega), (by omega), eh96, (by omega), (by omega), (by omega)⟩
              · refine gy_ifF rfl (by decide) (by decide) (by omega) hc109 ?_
                refine gz_s 1 (pc' := 150) (L' := [some (.ref x), some (.int (zi n)), some (.int (zi a)), some (.ref b2), some (.int (zi 2))]) (S' := [.ref b2]) rfl ?_
                refine gs_gtk rfl (by decide) rfl sh96.1 tb2 rfl rfl eh96 ?_
                refine gz_s 1 (pc' := 154) (L' := [some (.ref x), some (.int (zi n)), some (.int (zi a)), some (.ref b2), some (.int (zi 2))]) (S' := [.int (zi 4), .int (zi zq83)]) rfl ?_
                by_cases hc110 : (zq83 : Int) < 4
                · refine gy_icT (pc' := 163) rfl (by decide) (by decide) (by omega) (by omega) hc110 ?_
                  refine gz_s 1 (pc' := 164) (L' := [some (.ref x), some (.int (zi n)), some (.int (zi a)), some (.ref b2), some (.int (zi 2))]) (S' := [.int (zi (-1))]) rfl ?_
                  exact gz_end (I := .ireturn) (len := 1) rfl (Or.inl rfl) ⟨sh96, (-1), zq30 / 16, zq52 % 16, zq83, rfl, (by omega), (by omega), s107, (by omega), (by omega), s108, (by omega), (by omega), eh96, (by omega), (by omega), (by omega)⟩
                · refine gy_icF rfl (by decide) (by decide) (by omega) (by omega) hc110 ?_
                  refine gy_s 4 (pc' := 164) (L' := [some (.ref x), some (.int (zi n)), some (.int (zi a)), some (.ref b2), some (.int (zi 2))]) (S' := [.int ((zi a) + (zi 2))]) (L2 := [some (.ref x), some (.int (zi n)), some (.int (zi a)), some (.ref b2), some (.int (zi 2))]) (S2 := [.int (zi (a + 2))]) rfl (by simp only [zi_add, zi_sub, zi_mul, zi_neg, zi_and1, zi_and7, zi_and15, zi_and31, zi_and255, Int.reduceAdd, Int.reduceMul, Int.reduceSub]) (by simp only [zi_add, zi_sub, zi_mul, zi_neg, zi_and1, zi_and7, zi_and15, zi_and31, zi_and255, Int.reduceAdd, Int.reduceMul, Int.reduceSub]) ?_
                  exact gz_end (I := .ireturn) (len := 1) rfl (Or.inl rfl) ⟨sh96, a + 2, zq30 / 16, zq52 % 16, zq83, rfl, (by omega), (by omega), s107, (by omega), (by omega), s108, (by omega), (by omega), eh96, (by omega), (by omega), (by omega)⟩
            · refine gy_icF rfl (by decide) (by decide) (by omega) (by omega) hc82 ?_
              refine gy_s 3 (pc' := 127) (L' := [some (.ref x), some (.int (zi n)), some (.int (zi a)), some (.ref b2), some (.int (zi 2))]) (S' := [.int ((zi a) + (zi 1))]) (L2 := [some (.ref x), some (.int (zi n)), some (.int (zi a)), some (.ref b2), some (.int (zi 2))]) (S2 := [.int (zi (a + 1))]) rfl (by simp only [zi_add, zi_sub, zi_mul, zi_neg, zi_and1, zi_and7, zi_and15, zi_and31, zi_and255, Int.reduceAdd, Int.reduceMul, Int.reduceSub]) (by simp only [zi_add, zi_sub, zi_mul, zi_neg, zi_and1, zi_and7, zi_and15, zi_and31, zi_and255, Int.reduceAdd, Int.reduceMul, Int.reduceSub]) ?_
              obtain ⟨z111, ez111, az111, bz111⟩ := gJ.int (k := 3) (G := gGG) sh64.1 tb2 rfl rfl rfl
              exact gz_end (I := .ireturn) (len := 1) rfl (Or.inl rfl) ⟨sh64, a + 1, zq30 / 16, zq52 % 16, z111, rfl, (by omega), (by omega), s75, (by omega), (by omega), eh64, (by omega), (by omega), ez111, (by omega), (by omega), (by omega)⟩
    · refine gy_icF rfl (by decide) (by decide) (by omega) (by omega) hc29 ?_
      refine gz_s 1 (pc' := 52) (L' := [some (.ref x), some (.int (zi n)), some (.int (zi a)), some (.ref b2), some (.int (zi 1))]) (S' := [.int (zi a)]) rfl ?_
      obtain ⟨z112, ez112, az112, bz112⟩ := gJ.int (k := 1) (G := gGG) sh12.1 tb2 rfl rfl rfl
      obtain ⟨z113, ez113, az113, bz113⟩ := gJ.int (k := 2) (G := gGG) sh12.1 tb2 rfl rfl rfl
      obtain ⟨z114, ez114, az114, bz114⟩ := gJ.int (k := 3) (G := gGG) sh12.1 tb2 rfl rfl rfl
      exact gz_end (I := .ireturn) (len := 1) rfl (Or.inl rfl) ⟨sh12, a, z112, z113, z114, rfl, (by omega), (by omega), ez112, (by omega), (by omega), ez113, (by omega), (by omega), ez114, (by omega), (by omega), (by omega)⟩
  · refine gy_icF rfl (by decide) (by decide) (by omega) (by omega) hc24 ?_
    refine gz_s 1 (pc' := 52) (L' := [some (.ref x), some (.int (zi n)), some (.int (zi a)), some (.ref b2), some (.int (zi 0))]) (S' := [.int (zi a)]) rfl ?_
    obtain ⟨z115, ez115, az115, bz115⟩ := gJ.int (k := 1) (G := gGG) sh12.1 tb2 rfl rfl rfl
    obtain ⟨z116, ez116, az116, bz116⟩ := gJ.int (k := 2) (G := gGG) sh12.1 tb2 rfl rfl rfl
    obtain ⟨z117, ez117, az117, bz117⟩ := gJ.int (k := 3) (G := gGG) sh12.1 tb2 rfl rfl rfl
    exact gz_end (I := .ireturn) (len := 1) rfl (Or.inl rfl) ⟨sh12, a, z115, z116, z117, rfl, (by omega), (by omega), ez115, (by omega), (by omega), ez116, (by omega), (by omega), ez117, (by omega), (by omega), (by omega)⟩
set_option maxRecDepth 20000 in
set_option maxHeartbeats 4000000 in
theorem cl_Reader_readChoice (d : Nat) {ty : Nat → Nat} {h : gH} (hJ : gJ rT 1027 ty h) (x : Nat) (tx : ty x = 65) (i : Int) (ri : 0 ≤ i ∧ i ≤ 2) (n : Int) (rn : 0 ≤ n ∧ n ≤ 3) (a : Int) (ra : 0 ≤ a ∧ a ≤ 4200) (src : Nat) (esrc : h.2.2.2.2 x 0 = .ref src) (tsrc : ty src = 51) (pic : Nat) (epic : h.2.2.2.2 x 1 = .ref pic) (tpic : ty pic = 54) (sc : Nat) (esc : h.2.2.2.2 x 2 = .ref sc) (tsc : ty sc = 66) (sz : Int) (esz : h.2.2.2.2 src 1 = .int (zi sz)) (rsz : 0 ≤ sz ∧ sz ≤ 2000) (cn : Int) (ecn : h.2.2.2.2 pic 7 = .int (zi cn)) (rcn : 0 ≤ cn ∧ cn ≤ 3) (uq : gUq ty) : gz gPP gGG gcn (d + 1) gt37 0 (gent [.ref x, .int (zi i), .int (zi n), .int (zi a)] 8) [] h (fun q _ => gSs rT 1027 ty [66011, 66012, 82009, 82010, 83009, 83010, 84009, 84010] h q.2.2 ∧ ∃ z sg sb : Int, gfin gt37 q.1 q.2.1 = some (some (.int (zi z))) ∧ (-1) ≤ z ∧ z ≤ 4300 ∧ q.2.2.2.2.2.2 sc 11 = .int (zi sg) ∧ 0 ≤ sg ∧ sg ≤ 1 ∧ q.2.2.2.2.2.2 sc 12 = .int (zi sb) ∧ 0 ≤ sb ∧ sb ≤ 2 ∧ (z = -1 → ((sg = 1 ↔ n = 1) ∧ sb < cn)) ∧ (z = -1 ∨ a ≤ z)) := by
  have hS : gSs rT 1027 ty [66011, 66012, 82009, 82010, 83009, 83010, 84009, 84010] h h := gSs.rf hJ
  refine gz_s 1 (pc' := 1) (L' := [some (.ref x), some (.int (zi i)), some (.int (zi n)), some (.int (zi a)), none, none, none, none]) (S' := [.ref x]) rfl ?_
  refine gs_gtk rfl (by decide) rfl hS.1 tx rfl rfl esrc ?_
  refine gz_s 1 (pc' := 5) (L' := [some (.ref x), some (.int (zi i)), some (.int (zi n)), some (.int (zi a)), none, none, none, none]) (S' := [.int (zi a), .ref src]) rfl ?_
  refine gz_call rfl (by decide) rfl (by decide) (by decide) (gcal_of rfl rfl rfl (Nat.le_of_ble_eq_true rfl) (gJ.recv (G := gGG) hS.1 tsrc rfl rfl)) (cl_Collected_byteAt _ hS.1 src tsrc a (by omega) sz esz (by omega) uq) (fun q1 _ wq1 => ?_)
  obtain ⟨pq1, oq1, hq1⟩ := q1
  obtain ⟨xq1, zq1, gq1, aq1, bq1, uq1_0⟩ := wq1
  refine ⟨_, gq1, ?_⟩
  show gz gPP gGG gcn _ _ 8 [some (.ref x), some (.int (zi i)), some (.int (zi n)), some (.int (zi a)), none, none, none, none] [.int (zi zq1)] hq1 _
  have sq1 : gSs rT 1027 ty [66011, 66012, 82009, 82010, 83009, 83010, 84009, 84010] h hq1 := gSs.tr hS xq1 (by decide)
  have s2 := (xq1.2.2.2.2.2 x 0 (by rw [tx]; decide)).trans esrc
  have s3 := (xq1.2.2.2.2.2 x 1 (by rw [tx]; decide)).trans epic
  have s4 := (xq1.2.2.2.2.2 x 2 (by rw [tx]; decide)).trans esc
  have s5 := (xq1.2.2.2.2.2 src 1 (by rw [tsrc]; decide)).trans esz
  have s6 := (xq1.2.2.2.2.2 pic 7 (by rw [tpic]; decide)).trans ecn
  refine gz_s 5 (pc' := 16) (L' := [some (.ref x), some (.int (zi i)), some (.int (zi n)), some (.int (zi a)), some (.int (zi zq1)), some (.int (zi (-1))), some (.int (zi 0)), none]) (S' := []) rfl ?_
  have lp7 : ∀ (fu : Nat) (h8 : gH) (ch : Int) (b : Int), (4 - b).toNat < fu → gSs rT 1027 ty [66011, 66012, 82009, 82010, 83009, 83010, 84009, 84010] h h8 → ((-1) ≤ ch ∧ ch ≤ 2) → (0 ≤ b ∧ b ≤ 3) → (ch < cn) → (b ≤ cn) → h8.2.2.2.2 x 0 = .ref src → h8.2.2.2.2 x 1 = .ref pic → h8.2.2.2.2 x 2 = .ref sc → h8.2.2.2.2 src 1 = .int (zi sz) → h8.2.2.2.2 pic 7 = .int (zi cn) → gz gPP gGG gcn (d + 1) gt37 16 [some (.ref x), some (.int (zi i)), some (.int (zi n)), some (.int (zi a)), some (.int (zi zq1)), some (.int (zi ch)), some (.int (zi b)), none] [] h8 (fun q _ => gSs rT 1027 ty [66011, 66012, 82009, 82010, 83009, 83010, 84009, 84010] h q.2.2 ∧ ∃ z sg sb : Int, gfin gt37 q.1 q.2.1 = some (some (.int (zi z))) ∧ (-1) ≤ z ∧ z ≤ 4300 ∧ q.2.2.2.2.2.2 sc 11 = .int (zi sg) ∧ 0 ≤ sg ∧ sg ≤ 1 ∧ q.2.2.2.2.2.2 sc 12 = .int (zi sb) ∧ 0 ≤ sb ∧ sb ≤ 2 ∧ (z = -1 → ((sg = 1 ↔ n = 1) ∧ sb < cn)) ∧ (z = -1 ∨ a ≤ z)) := by
    intro fu
    induction fu with
    | zero => intro h8 ch b hm; exact absurd hm (Nat.not_lt_zero _)
    | succ fu ihlp7 =>
      intro h8 ch b lp7m sh8 lp7f0 lp7f1 lp7f2 lp7f3 lp7k0 lp7k1 lp7k2 lp7k3 lp7k4
      refine gz_s 2 (pc' := 19) (L' := [some (.ref x), some (.int (zi i)), some (.int (zi n)), some (.int (zi a)), some (.int (zi zq1)), some (.int (zi ch)), some (.int (zi b)), none]) (S' := [.ref x, .int (zi b)]) rfl ?_
      refine gs_gtk rfl (by decide) rfl sh8.1 tx rfl rfl lp7k1 ?_
      refine gs_gtk rfl (by decide) rfl sh8.1 tpic rfl rfl lp7k4 ?_
      by_cases hc9 : (cn : Int) ≤ b
      · refine gy_icT (pc' := 79) rfl (by decide) (by decide) (by omega) (by omega) hc9 ?_
        refine gz_s 1 (pc' := 81) (L' := [some (.ref x), some (.int (zi i)), some (.int (zi n)), some (.int (zi a)), some (.int (zi zq1)), some (.int (zi ch)), some (.int (zi b)), none]) (S' := [.int (zi ch)]) rfl ?_
        by_cases hc10 : (0 : Int) ≤ ch
        · refine gy_ifT (pc' := 86) rfl (by decide) (by decide) (by omega) hc10 ?_
          refine gz_s 1 (pc' := 87) (L' := [some (.ref x), some (.int (zi i)), some (.int (zi n)), some (.int (zi a)), some (.int (zi zq1)), some (.int (zi ch)), some (.int (zi b)), none]) (S' := [.ref x]) rfl ?_
          refine gs_gtk rfl (by decide) rfl sh8.1 tx rfl rfl lp7k0 ?_
          refine gy_s 3 (pc' := 93) (L' := [some (.ref x), some (.int (zi i)), some (.int (zi n)), some (.int (zi a)), some (.int (zi zq1)), some (.int (zi ch)), some (.int (zi b)), none]) (S' := [.int ((zi a) + (zi 1)), .ref src]) (L2 := [some (.ref x), some (.int (zi i)), some (.int (zi n)), some (.int (zi a)), some (.int (zi zq1)), some (.int (zi ch)), some (.int (zi b)), none]) (S2 := [.int (zi (a + 1)), .ref src]) rfl (by simp only [zi_add, zi_sub, zi_mul, zi_neg, zi_and1, zi_and7, zi_and15, zi_and31, zi_and255]) (by simp only [zi_add, zi_sub, zi_mul, zi_neg, zi_and1, zi_and7, zi_and15, zi_and31, zi_and255]) ?_
          refine gz_call rfl (by decide) rfl (by decide) (by decide) (gcal_of rfl rfl rfl (Nat.le_of_ble_eq_true rfl) (gJ.recv (G := gGG) sh8.1 tsrc rfl rfl)) (cl_Collected_byteAt _ sh8.1 src tsrc (a + 1) (by omega) sz lp7k3 (by omega) uq) (fun q11 _ wq11 => ?_)
          obtain ⟨pq11, oq11, hq11⟩ := q11
          obtain ⟨xq11, zq11, gq11, aq11, bq11, uq11_0⟩ := wq11
          refine ⟨_, gq11, ?_⟩
          show gz gPP gGG gcn _ _ 96 [some (.ref x), some (.int (zi i)), some (.int (zi n)), some (.int (zi a)), some (.int (zi zq1)), some (.int (zi ch)), some (.int (zi b)), none] [.int (zi zq11)] hq11 _
          have sq11 : gSs rT 1027 ty [66011, 66012, 82009, 82010, 83009, 83010, 84009, 84010] h hq11 := gSs.tr sh8 xq11 (by decide)
          have s12 := (xq11.2.2.2.2.2 x 0 (by rw [tx]; decide)).trans lp7k0
          have s13 := (xq11.2.2.2.2.2 x 1 (by rw [tx]; decide)).trans lp7k1
          have s14 := (xq11.2.2.2.2.2 x 2 (by rw [tx]; decide)).trans lp7k2
          have s15 := (xq11.2.2.2.2.2 src 1 (by rw [tsrc]; decide)).trans lp7k3
          have s16 := (xq11.2.2.2.2.2 pic 7 (by rw [tpic]; decide)).trans lp7k4
          refine gz_s 2 (pc' := 100) (L' := [some (.ref x), some (.int (zi i)), some (.int (zi n)), some (.int (zi a)), some (.int (zi zq1)), some (.int (zi ch)), some (.int (zi zq11)), none]) (S' := [.int (zi zq11)]) rfl ?_
          by_cases hc17 : (zq11 : Int) < 0
          · refine gy_ifT (pc' := 120) rfl (by decide) (by decide) (by omega) hc17 ?_
            refine gy_s 3 (pc' := 123) (L' := [some (.ref x), some (.int (zi i)), some (.int (zi n)), some (.int (zi a)), some (.int (zi zq1)), some (.int (zi ch)), some (.int (zi zq11)), none]) (S' := [.int ((zi a) + (zi 1))]) (L2 := [some (.ref x), some (.int (zi i)), some (.int (zi n)), some (.int (zi a)), some (.int (zi zq1)), some (.int (zi ch)), some (.int (zi zq11)), none]) (S2 := [.int (zi (a + 1))]) rfl (by simp only [zi_add, zi_sub, zi_mul, zi_neg, zi_and1, zi_and7, zi_and15, zi_and31, zi_and255]) (by simp only [zi_add, zi_sub, zi_mul, zi_neg, zi_and1, zi_and7, zi_and15, zi_and31, zi_and255]) ?_
            obtain ⟨z18, ez18, az18, bz18⟩ := gJ.int (k := 11) (G := gGG) sq11.1 tsc rfl rfl rfl
            obtain ⟨z19, ez19, az19, bz19⟩ := gJ.int (k := 12) (G := gGG) sq11.1 tsc rfl rfl rfl
            exact gz_end (I := .ireturn) (len := 1) rfl (Or.inl rfl) ⟨sq11, a + 1, z18, z19, rfl, (by omega), (by omega), ez18, (by omega), (by omega), ez19, (by omega), (by omega), (by omega), (by omega)⟩
          · refine gy_ifF rfl (by decide) (by decide) (by omega) hc17 ?_
            refine gz_s 2 (pc' := 106) (L' := [some (.ref x), some (.int (zi i)), some (.int (zi n)), some (.int (zi a)), some (.int (zi zq1)), some (.int (zi ch)), some (.int (zi zq11)), none]) (S' := [.int (zi 4), .int (zi zq11)]) rfl ?_
            refine gy_shc (n := 4) (v := 16) rfl (by decide) (by omega) (by decide) (by decide) rfl ?_
            refine gz_s 1 (pc' := 108) (L' := [some (.ref x), some (.int (zi i)), some (.int (zi n)), some (.int (zi a)), some (.int (zi zq1)), some (.int (zi ch)), some (.int (zi zq11)), none]) (S' := [.int (zi 3), .int (zi (zq11 / 16))]) rfl ?_
            by_cases hc20 : (3 : Int) < zq11 / 16
            · refine gy_icT (pc' := 120) rfl (by decide) (by decide) (by omega) (by omega) hc20 ?_
              refine gy_s 3 (pc' := 123) (L' := [some (.ref x), some (.int (zi i)), some (.int (zi n)), some (.int (zi a)), some (.int (zi zq1)), some (.int (zi ch)), some (.int (zi zq11)), none]) (S' := [.int ((zi a) + (zi 1))]) (L2 := [some (.ref x), some (.int (zi i)), some (.int (zi n)), some (.int (zi a)), some (.int (zi zq1)), some (.int (zi ch)), some (.int (zi zq11)), none]) (S2 := [.int (zi (a + 1))]) rfl (by simp only [zi_add, zi_sub, zi_mul, zi_neg, zi_and1, zi_and7, zi_and15, zi_and31, zi_and255]) (by simp only [zi_add, zi_sub, zi_mul, zi_neg, zi_and1, zi_and7, zi_and15, zi_and31, zi_and255]) ?_
              obtain ⟨z21, ez21, az21, bz21⟩ := gJ.int (k := 11) (G := gGG) sq11.1 tsc rfl rfl rfl
              obtain ⟨z22, ez22, az22, bz22⟩ := gJ.int (k := 12) (G := gGG) sq11.1 tsc rfl rfl rfl
              exact gz_end (I := .ireturn) (len := 1) rfl (Or.inl rfl) ⟨sq11, a + 1, z21, z22, rfl, (by omega), (by omega), ez21, (by omega), (by omega), ez22, (by omega), (by omega), (by omega), (by omega)⟩
            · refine gy_icF rfl (by decide) (by decide) (by omega) (by omega) hc20 ?_
              refine gy_s 4 (pc' := 117) (L' := [some (.ref x), some (.int (zi i)), some (.int (zi n)), some (.int (zi a)), some (.int (zi zq1)), some (.int (zi ch)), some (.int (zi zq11)), none]) (S' := [.int (zi 3), .int ((zi zq11) &&& (zi 15))]) (L2 := [some (.ref x), some (.int (zi i)), some (.int (zi n)), some (.int (zi a)), some (.int (zi zq1)), some (.int (zi ch)), some (.int (zi zq11)), none]) (S2 := [.int (zi 3), .int (zi (zq11 % 16))]) rfl (by simp only [zi_add, zi_sub, zi_mul, zi_neg, zi_and1, zi_and7, zi_and15, zi_and31, zi_and255]) (by simp only [zi_add, zi_sub, zi_mul, zi_neg, zi_and1, zi_and7, zi_and15, zi_and31, zi_and255]) ?_
              by_cases hc23 : (zq11 % 16 : Int) ≤ 3
              · refine gy_icT (pc' := 124) rfl (by decide) (by decide) (by omega) (by omega) hc23 ?_
                refine gz_s 1 (pc' := 125) (L' := [some (.ref x), some (.int (zi i)), some (.int (zi n)), some (.int (zi a)), some (.int (zi zq1)), some (.int (zi ch)), some (.int (zi zq11)), none]) (S' := [.ref x]) rfl ?_
                refine gs_gtk rfl (by decide) rfl sq11.1 tx rfl rfl s14 ?_
                refine gz_s 3 (pc' := 133) (L' := [some (.ref x), some (.int (zi i)), some (.int (zi n)), some (.int (zi a)), some (.int (zi zq1)), some (.int (zi ch)), some (.int (zi zq11)), none]) (S' := [.int (zi zq11), .int (zi n), .int (zi ch), .ref sc]) rfl ?_
                obtain ⟨c24, ec24, tc24⟩ := gJ.ref (k := 7) (G := gGG) sq11.1 tsc rfl rfl rfl
                have ee25 : pic = c24 := uq pic c24 (tpic.trans tc24.symm) (by rw [tpic]; decide) (by rw [tpic]; decide)
                subst ee25
                refine gz_call rfl (by decide) rfl (by decide) (by decide) (gcal_of rfl rfl rfl (Nat.le_of_ble_eq_true rfl) (gJ.recv (G := gGG) sq11.1 tsc rfl rfl)) (cl_ScanReader_chooseBand _ sq11.1 sc tsc ch (by omega) n (by omega) zq11 (by omega) pic ec24 tpic uq) (fun q26 _ wq26 => ?_)
                obtain ⟨pq26, oq26, hq26⟩ := q26
                obtain ⟨xq26, fq26_0, fq26_1, gq26, efq26_0, afq26_0, bfq26_0, efq26_1, afq26_1, bfq26_1, uq26_0, uq26_1⟩ := wq26
                refine ⟨_, gq26, ?_⟩
                show gz gPP gGG gcn _ _ 136 [some (.ref x), some (.int (zi i)), some (.int (zi n)), some (.int (zi a)), some (.int (zi zq1)), some (.int (zi ch)), some (.int (zi zq11)), none] [] hq26 _
                have sq26 : gSs rT 1027 ty [66011, 66012, 82009, 82010, 83009, 83010, 84009, 84010] h hq26 := gSs.tr sq11 xq26 (by decide)
                have s27 := (xq26.2.2.2.2.2 x 0 (by rw [tx]; decide)).trans s12
                have s28 := (xq26.2.2.2.2.2 x 1 (by rw [tx]; decide)).trans s13
                have s29 := (xq26.2.2.2.2.2 x 2 (by rw [tx]; decide)).trans s14
                have s30 := (xq26.2.2.2.2.2 src 1 (by rw [tsrc]; decide)).trans s15
                have s31 := (xq26.2.2.2.2.2 pic 7 (by rw [tpic]; decide)).trans s16
                have s32 := (xq26.2.2.2.2.2 sc 7 (by rw [tsc]; decide)).trans ec24
                refine gz_s 1 (pc' := 137) (L' := [some (.ref x), some (.int (zi i)), some (.int (zi n)), some (.int (zi a)), some (.int (zi zq1)), some (.int (zi ch)), some (.int (zi zq11)), none]) (S' := [.int (zi (-1))]) rfl ?_
                exact gz_end (I := .ireturn) (len := 1) rfl (Or.inl rfl) ⟨sq26, (-1), fq26_0, fq26_1, rfl, (by omega), (by omega), efq26_0, (by omega), (by omega), efq26_1, (by omega), (by omega), (by omega), (by omega)⟩
              · refine gy_icF rfl (by decide) (by decide) (by omega) (by omega) hc23 ?_
                refine gy_s 3 (pc' := 123) (L' := [some (.ref x), some (.int (zi i)), some (.int (zi n)), some (.int (zi a)), some (.int (zi zq1)), some (.int (zi ch)), some (.int (zi zq11)), none]) (S' := [.int ((zi a) + (zi 1))]) (L2 := [some (.ref x), some (.int (zi i)), some (.int (zi n)), some (.int (zi a)), some (.int (zi zq1)), some (.int (zi ch)), some (.int (zi zq11)), none]) (S2 := [.int (zi (a + 1))]) rfl (by simp only [zi_add, zi_sub, zi_mul, zi_neg, zi_and1, zi_and7, zi_and15, zi_and31, zi_and255]) (by simp only [zi_add, zi_sub, zi_mul, zi_neg, zi_and1, zi_and7, zi_and15, zi_and31, zi_and255]) ?_
                obtain ⟨z33, ez33, az33, bz33⟩ := gJ.int (k := 11) (G := gGG) sq11.1 tsc rfl rfl rfl
                obtain ⟨z34, ez34, az34, bz34⟩ := gJ.int (k := 12) (G := gGG) sq11.1 tsc rfl rfl rfl
                exact gz_end (I := .ireturn) (len := 1) rfl (Or.inl rfl) ⟨sq11, a + 1, z33, z34, rfl, (by omega), (by omega), ez33, (by omega), (by omega), ez34, (by omega), (by omega), (by omega), (by omega)⟩
        · refine gy_ifF rfl (by decide) (by decide) (by omega) hc10 ?_
          refine gz_s 1 (pc' := 85) (L' := [some (.ref x), some (.int (zi i)), some (.int (zi n)), some (.int (zi a)), some (.int (zi zq1)), some (.int (zi ch)), some (.int (zi b)), none]) (S' := [.int (zi a)]) rfl ?_
          obtain ⟨z35, ez35, az35, bz35⟩ := gJ.int (k := 11) (G := gGG) sh8.1 tsc rfl rfl rfl
          obtain ⟨z36, ez36, az36, bz36⟩ := gJ.int (k := 12) (G := gGG) sh8.1 tsc rfl rfl rfl
          exact gz_end (I := .ireturn) (len := 1) rfl (Or.inl rfl) ⟨sh8, a, z35, z36, rfl, (by omega), (by omega), ez35, (by omega), (by omega), ez36, (by omega), (by omega), (by omega), (by omega)⟩
      · refine gy_icF rfl (by decide) (by decide) (by omega) (by omega) hc9 ?_
        refine gz_s 2 (pc' := 30) (L' := [some (.ref x), some (.int (zi i)), some (.int (zi n)), some (.int (zi a)), some (.int (zi zq1)), some (.int (zi ch)), some (.int (zi b)), none]) (S' := [.int (zi 1), .int (zi n)]) rfl ?_
        have jn37 : ∀ (jn37v0 : Int), ((0 ≤ jn37v0) ∧ (jn37v0 ≤ 1)) → gz gPP gGG gcn (d + 1) gt37 44 [some (.ref x), some (.int (zi i)), some (.int (zi n)), some (.int (zi a)), some (.int (zi zq1)), some (.int (zi ch)), some (.int (zi b)), none] [.int (zi jn37v0)] h8 (fun q _ => gSs rT 1027 ty [66011, 66012, 82009, 82010, 83009, 83010, 84009, 84010] h q.2.2 ∧ ∃ z sg sb : Int, gfin gt37 q.1 q.2.1 = some (some (.int (zi z))) ∧ (-1) ≤ z ∧ z ≤ 4300 ∧ q.2.2.2.2.2.2 sc 11 = .int (zi sg) ∧ 0 ≤ sg ∧ sg ≤ 1 ∧ q.2.2.2.2.2.2 sc 12 = .int (zi sb) ∧ 0 ≤ sb ∧ sb ≤ 2 ∧ (z = -1 → ((sg = 1 ↔ n = 1) ∧ sb < cn)) ∧ (z = -1 ∨ a ≤ z)) := by
          intro jn37v0 jn37d
          refine gz_s 2 (pc' := 48) (L' := [some (.ref x), some (.int (zi i)), some (.int (zi n)), some (.int (zi a)), some (.int (zi zq1)), some (.int (zi ch)), some (.int (zi b)), some (.int (zi jn37v0))]) (S' := [.int (zi jn37v0)]) rfl ?_
          by_cases hc38 : (jn37v0 : Int) = 0
          · refine gy_ifT (pc' := 73) rfl (by decide) (by decide) (by omega) hc38 ?_
            refine gy_s 2 (pc' := 16) (L' := [some (.ref x), some (.int (zi i)), some (.int (zi n)), some (.int (zi a)), some (.int (zi zq1)), some (.int (zi ch)), some (.int ((zi b) + zi 1)), some (.int (zi jn37v0))]) (S' := []) (L2 := [some (.ref x), some (.int (zi i)), some (.int (zi n)), some (.int (zi a)), some (.int (zi zq1)), some (.int (zi ch)), some (.int (zi (b + 1))), some (.int (zi jn37v0))]) (S2 := []) rfl (by simp only [zi_add, zi_sub, zi_mul, zi_neg, zi_and1, zi_and7, zi_and15, zi_and31, zi_and255]) (by simp only [zi_add, zi_sub, zi_mul, zi_neg, zi_and1, zi_and7, zi_and15, zi_and31, zi_and255]) ?_
            exact gz_wk (ihlp7 h8 ch (b + 1) (by omega) sh8 (by omega) (by omega) (by omega) (by omega) lp7k0 lp7k1 lp7k2 lp7k3 lp7k4) (gLw.s (gLw.s (gLw.s (gLw.s (gLw.s (gLw.s (gLw.s (gLw.n gLw.z))))))))
          · refine gy_ifF rfl (by decide) (by decide) (by omega) hc38 ?_
            refine gz_s 1 (pc' := 52) (L' := [some (.ref x), some (.int (zi i)), some (.int (zi n)), some (.int (zi a)), some (.int (zi zq1)), some (.int (zi ch)), some (.int (zi b)), some (.int (zi jn37v0))]) (S' := [.ref x]) rfl ?_
            refine gs_gtk rfl (by decide) rfl sh8.1 tx rfl rfl lp7k1 ?_
            refine gs_gtr rfl (by decide) rfl sh8.1 tpic rfl rfl rfl (fun c39 ec39 tc39 => ?_)
            refine gz_s 1 (pc' := 60) (L' := [some (.ref x), some (.int (zi i)), some (.int (zi n)), some (.int (zi a)), some (.int (zi zq1)), some (.int (zi ch)), some (.int (zi b)), some (.int (zi jn37v0))]) (S' := [.int (zi b), .ref c39]) rfl ?_
            rcases (by omega : b = 0 ∨ b = 1 ∨ b = 2) with he42 | he42 | he42
            · refine gs_aal (j := 0) (q2 := 82) rfl (by decide) sh8.1 tc39 rfl rfl rfl (by decide) he42 rfl (by decide) (fun c43 ec43 tc43 => ?_)
              refine gs_get rfl (by decide) rfl sh8.1 tc43 rfl rfl rfl (fun z44 ez44 az44 bz44 => ?_)
              refine gz_s 1 (pc' := 66) (L' := [some (.ref x), some (.int (zi i)), some (.int (zi n)), some (.int (zi a)), some (.int (zi zq1)), some (.int (zi ch)), some (.int (zi b)), some (.int (zi jn37v0))]) (S' := [.int (zi zq1), .int (zi z44)]) rfl ?_
              by_cases hc45 : ¬ (z44 : Int) = zq1
              · refine gy_icT (pc' := 73) rfl (by decide) (by decide) (by omega) (by omega) hc45 ?_
                refine gy_s 2 (pc' := 16) (L' := [some (.ref x), some (.int (zi i)), some (.int (zi n)), some (.int (zi a)), some (.int (zi zq1)), some (.int (zi ch)), some (.int ((zi b) + zi 1)), some (.int (zi jn37v0))]) (S' := []) (L2 := [some (.ref x), some (.int (zi i)), some (.int (zi n)), some (.int (zi a)), some (.int (zi zq1)), some (.int (zi ch)), some (.int (zi (b + 1))), some (.int (zi jn37v0))]) (S2 := []) rfl (by simp only [zi_add, zi_sub, zi_mul, zi_neg, zi_and1, zi_and7, zi_and15, zi_and31, zi_and255]) (by simp only [zi_add, zi_sub, zi_mul, zi_neg, zi_and1, zi_and7, zi_and15, zi_and31, zi_and255]) ?_
                exact gz_wk (ihlp7 h8 ch (b + 1) (by omega) sh8 (by omega) (by omega) (by omega) (by omega) lp7k0 lp7k1 lp7k2 lp7k3 lp7k4) (gLw.s (gLw.s (gLw.s (gLw.s (gLw.s (gLw.s (gLw.s (gLw.n gLw.z))))))))
              · refine gy_icF rfl (by decide) (by decide) (by omega) (by omega) hc45 ?_
                refine gy_s 4 (pc' := 16) (L' := [some (.ref x), some (.int (zi i)), some (.int (zi n)), some (.int (zi a)), some (.int (zi zq1)), some (.int (zi b)), some (.int ((zi b) + zi 1)), some (.int (zi jn37v0))]) (S' := []) (L2 := [some (.ref x), some (.int (zi i)), some (.int (zi n)), some (.int (zi a)), some (.int (zi zq1)), some (.int (zi b)), some (.int (zi (b + 1))), some (.int (zi jn37v0))]) (S2 := []) rfl (by simp only [zi_add, zi_sub, zi_mul, zi_neg, zi_and1, zi_and7, zi_and15, zi_and31, zi_and255]) (by simp only [zi_add, zi_sub, zi_mul, zi_neg, zi_and1, zi_and7, zi_and15, zi_and31, zi_and255]) ?_
                exact gz_wk (ihlp7 h8 b (b + 1) (by omega) sh8 (by omega) (by omega) (by omega) (by omega) lp7k0 lp7k1 lp7k2 lp7k3 lp7k4) (gLw.s (gLw.s (gLw.s (gLw.s (gLw.s (gLw.s (gLw.s (gLw.n gLw.z))))))))
            · refine gs_aal (j := 1) (q2 := 83) rfl (by decide) sh8.1 tc39 rfl rfl rfl (by decide) he42 rfl (by decide) (fun c46 ec46 tc46 => ?_)
              refine gs_get rfl (by decide) rfl sh8.1 tc46 rfl rfl rfl (fun z47 ez47 az47 bz47 => ?_)
              refine gz_s 1 (pc' := 66) (L' := [some (.ref x), some (.int (zi i)), some (.int (zi n)), some (.int (zi a)), some (.int (zi zq1)), some (.int (zi ch)), some (.int (zi b)), some (.int (zi jn37v0))]) (S' := [.int (zi zq1), .int (zi z47)]) rfl ?_
              by_cases hc48 : ¬ (z47 : Int) = zq1
              · refine gy_icT (pc' := 73) rfl (by decide) (by decide) (by omega) (by omega) hc48 ?_
                refine gy_s 2 (pc' := 16) (L' := [some (.ref x), some (.int (zi i)), some (.int (zi n)), some (.int (zi a)), some (.int (zi zq1)), some (.int (zi ch)), some (.int ((zi b) + zi 1)), some (.int (zi jn37v0))]) (S' := []) (L2 := [some (.ref x), some (.int (zi i)), some (.int (zi n)), some (.int (zi a)), some (.int (zi zq1)), some (.int (zi ch)), some (.int (zi (b + 1))), some (.int (zi jn37v0))]) (S2 := []) rfl (by simp only [zi_add, zi_sub, zi_mul, zi_neg, zi_and1, zi_and7, zi_and15, zi_and31, zi_and255]) (by simp only [zi_add, zi_sub, zi_mul, zi_neg, zi_and1, zi_and7, zi_and15, zi_and31, zi_and255]) ?_
                exact gz_wk (ihlp7 h8 ch (b + 1) (by omega) sh8 (by omega) (by omega) (by omega) (by omega) lp7k0 lp7k1 lp7k2 lp7k3 lp7k4) (gLw.s (gLw.s (gLw.s (gLw.s (gLw.s (gLw.s (gLw.s (gLw.n gLw.z))))))))
              · refine gy_icF rfl (by decide) (by decide) (by omega) (by omega) hc48 ?_
                refine gy_s 4 (pc' := 16) (L' := [some (.ref x), some (.int (zi i)), some (.int (zi n)), some (.int (zi a)), some (.int (zi zq1)), some (.int (zi b)), some (.int ((zi b) + zi 1)), some (.int (zi jn37v0))]) (S' := []) (L2 := [some (.ref x), some (.int (zi i)), some (.int (zi n)), some (.int (zi a)), some (.int (zi zq1)), some (.int (zi b)), some (.int (zi (b + 1))), some (.int (zi jn37v0))]) (S2 := []) rfl (by simp only [zi_add, zi_sub, zi_mul, zi_neg, zi_and1, zi_and7, zi_and15, zi_and31, zi_and255]) (by simp only [zi_add, zi_sub, zi_mul, zi_neg, zi_and1, zi_and7, zi_and15, zi_and31, zi_and255]) ?_
                exact gz_wk (ihlp7 h8 b (b + 1) (by omega) sh8 (by omega) (by omega) (by omega) (by omega) lp7k0 lp7k1 lp7k2 lp7k3 lp7k4) (gLw.s (gLw.s (gLw.s (gLw.s (gLw.s (gLw.s (gLw.s (gLw.n gLw.z))))))))
            · refine gs_aal (j := 2) (q2 := 84) rfl (by decide) sh8.1 tc39 rfl rfl rfl (by decide) he42 rfl (by decide) (fun c49 ec49 tc49 => ?_)
              refine gs_get rfl (by decide) rfl sh8.1 tc49 rfl rfl rfl (fun z50 ez50 az50 bz50 => ?_)
              refine gz_s 1 (pc' := 66) (L' := [some (.ref x), some (.int (zi i)), some (.int (zi n)), some (.int (zi a)), some (.int (zi zq1)), some (.int (zi ch)), some (.int (zi b)), some (.int (zi jn37v0))]) (S' := [.int (zi zq1), .int (zi z50)]) rfl ?_
              by_cases hc51 : ¬ (z50 : Int) = zq1
              · refine gy_icT (pc' := 73) rfl (by decide) (by decide) (by omega) (by omega) hc51 ?_
                refine gy_s 2 (pc' := 16) (L' := [some (.ref x), some (.int (zi i)), some (.int (zi n)), some (.int (zi a)), some (.int (zi zq1)), some (.int (zi ch)), some (.int ((zi b) + zi 1)), some (.int (zi jn37v0))]) (S' := []) (L2 := [some (.ref x), some (.int (zi i)), some (.int (zi n)), some (.int (zi a)), some (.int (zi zq1)), some (.int (zi ch)), some (.int (zi (b + 1))), some (.int (zi jn37v0))]) (S2 := []) rfl (by simp only [zi_add, zi_sub, zi_mul, zi_neg, zi_and1, zi_and7, zi_and15, zi_and31, zi_and255]) (by simp only [zi_add, zi_sub, zi_mul, zi_neg, zi_and1, zi_and7, zi_and15, zi_and31, zi_and255]) ?_
                exact gz_wk (ihlp7 h8 ch (b + 1) (by omega) sh8 (by omega) (by omega) (by omega) (by omega) lp7k0 lp7k1 lp7k2 lp7k3 lp7k4) (gLw.s (gLw.s (gLw.s (gLw.s (gLw.s (gLw.s (gLw.s (gLw.n gLw.z))))))))
              · refine gy_icF rfl (by decide) (by decide) (by omega) (by omega) hc51 ?_
                refine gy_s 4 (pc' := 16) (L' := [some (.ref x), some (.int (zi i)), some (.int (zi n)), some (.int (zi a)), some (.int (zi zq1)), some (.int (zi b)), some (.int ((zi b) + zi 1)), some (.int (zi jn37v0))]) (S' := []) (L2 := [some (.ref x), some (.int (zi i)), some (.int (zi n)), some (.int (zi a)), some (.int (zi zq1)), some (.int (zi b)), some (.int (zi (b + 1))), some (.int (zi jn37v0))]) (S2 := []) rfl (by simp only [zi_add, zi_sub, zi_mul, zi_neg, zi_and1, zi_and7, zi_and15, zi_and31, zi_and255]) (by simp only [zi_add, zi_sub, zi_mul, zi_neg, zi_and1, zi_and7, zi_and15, zi_and31, zi_and255]) ?_
                exact gz_wk (ihlp7 h8 b (b + 1) (by omega) sh8 (by omega) (by omega) (by omega) (by omega) lp7k0 lp7k1 lp7k2 lp7k3 lp7k4) (gLw.s (gLw.s (gLw.s (gLw.s (gLw.s (gLw.s (gLw.s (gLw.n gLw.z))))))))
        by_cases hc52 : (n : Int) = 1
        · refine gy_icT (pc' := 39) rfl (by decide) (by decide) (by omega) (by omega) hc52 ?_
          refine gz_s 2 (pc' := 44) (L' := [some (.ref x), some (.int (zi i)), some (.int (zi n)), some (.int (zi a)), some (.int (zi zq1)), some (.int (zi ch)), some (.int (zi b)), none]) (S' := [.int (zi 1)]) rfl ?_
          exact jn37 1 (by omega)
        · refine gy_icF rfl (by decide) (by decide) (by omega) (by omega) hc52 ?_
          refine gz_s 2 (pc' := 36) (L' := [some (.ref x), some (.int (zi i)), some (.int (zi n)), some (.int (zi a)), some (.int (zi zq1)), some (.int (zi ch)), some (.int (zi b)), none]) (S' := [.int (zi i), .int (zi b)]) rfl ?_
          by_cases hc53 : ¬ (b : Int) = i
          · refine gy_icT (pc' := 43) rfl (by decide) (by decide) (by omega) (by omega) hc53 ?_
            refine gz_s 1 (pc' := 44) (L' := [some (.ref x), some (.int (zi i)), some (.int (zi n)), some (.int (zi a)), some (.int (zi zq1)), some (.int (zi ch)), some (.int (zi b)), none]) (S' := [.int (zi 0)]) rfl ?_
            exact jn37 0 (by omega)
          · refine gy_icF rfl (by decide) (by decide) (by omega) (by omega) hc53 ?_
            refine gz_s 2 (pc' := 44) (L' := [some (.ref x), some (.int (zi i)), some (.int (zi n)), some (.int (zi a)), some (.int (zi zq1)), some (.int (zi ch)), some (.int (zi b)), none]) (S' := [.int (zi 1)]) rfl ?_
            exact jn37 1 (by omega)
  exact gz_wk (lp7 _ hq1 (-1) 0 (Nat.lt_succ_self _) sq1 (by omega) (by omega) (by omega) (by omega) s2 s3 s4 s5 s6) (gLw.s (gLw.s (gLw.s (gLw.s (gLw.s (gLw.s (gLw.s (gLw.n gLw.z))))))))
set_option maxRecDepth 20000 in
set_option maxHeartbeats 4000000 in
theorem cl_ScanReader_isRangeGood (d : Nat) {ty : Nat → Nat} {h : gH} (hJ : gJ rT 1027 ty h) (x : Nat) (tx : ty x = 66) (pic : Nat) (epic : h.2.2.2.2 x 7 = .ref pic) (tpic : ty pic = 54) (fr : Int) (efr : h.2.2.2.2 x 2 = .int (zi fr)) (rfr : (-1) ≤ fr ∧ fr ≤ 255) (tt : Int) (ett : h.2.2.2.2 x 3 = .int (zi tt)) (rtt : (-1) ≤ tt ∧ tt ≤ 255) (hg : Int) (ehg : h.2.2.2.2 x 4 = .int (zi hg)) (rhg : (-1) ≤ hg ∧ hg ≤ 15) (lw : Int) (elw : h.2.2.2.2 x 5 = .int (zi lw)) (rlw : 0 ≤ lw ∧ lw ≤ 15) (sg : Int) (esg : h.2.2.2.2 x 11 = .int (zi sg)) (rsg : 0 ≤ sg ∧ sg ≤ 1) (uq : gUq ty) : gz gPP gGG gcn (d + 0) gt39 0 (gent [.ref x] 3) [] h (fun q _ => gSs rT 1027 ty [] h q.2.2 ∧ ∃ z : Int, gfin gt39 q.1 q.2.1 = some (some (.int (zi z))) ∧ 0 ≤ z ∧ z ≤ 1 ∧ (z = 1 → (0 ≤ fr ∧ fr ≤ tt ∧ tt ≤ 63))) := by
  have hS : gSs rT 1027 ty [] h h := gSs.rf hJ
  refine gz_s 1 (pc' := 1) (L' := [some (.ref x), none, none]) (S' := [.ref x]) rfl ?_
  refine gs_gtk rfl (by decide) rfl hS.1 tx rfl rfl epic ?_
  refine gs_get rfl (by decide) rfl hS.1 tpic rfl rfl rfl (fun z1 ez1 az1 bz1 => ?_)
  by_cases hc2 : ¬ (z1 : Int) = 0
  · refine gy_ifT (pc' := 46) rfl (by decide) (by decide) (by omega) hc2 ?_
    refine gz_s 1 (pc' := 47) (L' := [some (.ref x), none, none]) (S' := [.ref x]) rfl ?_
    refine gs_gtk rfl (by decide) rfl hS.1 tx rfl rfl efr ?_
    have jn3 : ∀ (jn3v0 : Int), ((0 ≤ jn3v0) ∧ (jn3v0 ≤ 1) ∧ (jn3v0 = 1 → (fr = 0 ∧ tt = 0))) → gz gPP gGG gcn (d + 0) gt39 65 [some (.ref x), none, none] [.int (zi jn3v0)] h (fun q _ => gSs rT 1027 ty [] h q.2.2 ∧ ∃ z : Int, gfin gt39 q.1 q.2.1 = some (some (.int (zi z))) ∧ 0 ≤ z ∧ z ≤ 1 ∧ (z = 1 → (0 ≤ fr ∧ fr ≤ tt ∧ tt ≤ 63))) := by
      intro jn3v0 jn3d
      refine gz_s 2 (pc' := 67) (L' := [some (.ref x), some (.int (zi jn3v0)), none]) (S' := [.ref x]) rfl ?_
      refine gs_gtk rfl (by decide) rfl hS.1 tx rfl rfl efr ?_
      refine gz_s 1 (pc' := 71) (L' := [some (.ref x), some (.int (zi jn3v0)), none]) (S' := [.int (zi 1), .int (zi fr)]) rfl ?_
      have jn4 : ∀ (jn4v0 : Int), ((0 ≤ jn4v0) ∧ (jn4v0 ≤ 1) ∧ (jn4v0 = 1 → (1 ≤ fr ∧ fr ≤ tt ∧ tt ≤ 63))) → gz gPP gGG gcn (d + 0) gt39 106 [some (.ref x), some (.int (zi jn3v0)), none] [.int (zi jn4v0)] h (fun q _ => gSs rT 1027 ty [] h q.2.2 ∧ ∃ z : Int, gfin gt39 q.1 q.2.1 = some (some (.int (zi z))) ∧ 0 ≤ z ∧ z ≤ 1 ∧ (z = 1 → (0 ≤ fr ∧ fr ≤ tt ∧ tt ≤ 63))) := by
        intro jn4v0 jn4d
        refine gz_s 2 (pc' := 108) (L' := [some (.ref x), some (.int (zi jn3v0)), some (.int (zi jn4v0))]) (S' := [.int (zi jn3v0)]) rfl ?_
        by_cases hc5 : ¬ (jn3v0 : Int) = 0
        · refine gy_ifT (pc' := 115) rfl (by decide) (by decide) (by omega) hc5 ?_
          refine gz_s 1 (pc' := 116) (L' := [some (.ref x), some (.int (zi jn3v0)), some (.int (zi jn4v0))]) (S' := [.ref x]) rfl ?_
          refine gs_gtk rfl (by decide) rfl hS.1 tx rfl rfl elw ?_
          refine gz_s 1 (pc' := 121) (L' := [some (.ref x), some (.int (zi jn3v0)), some (.int (zi jn4v0))]) (S' := [.int (zi 13), .int (zi lw)]) rfl ?_
          by_cases hc6 : (13 : Int) < lw
          · refine gy_icT (pc' := 148) rfl (by decide) (by decide) (by omega) (by omega) hc6 ?_
            refine gz_s 1 (pc' := 149) (L' := [some (.ref x), some (.int (zi jn3v0)), some (.int (zi jn4v0))]) (S' := [.int (zi 0)]) rfl ?_
            exact gz_end (I := .ireturn) (len := 1) rfl (Or.inl rfl) ⟨hS, 0, gfin_z rfl rfl (by omega), (by omega), (by omega), (by omega)⟩
          · refine gy_icF rfl (by decide) (by decide) (by omega) (by omega) hc6 ?_
            refine gz_s 1 (pc' := 125) (L' := [some (.ref x), some (.int (zi jn3v0)), some (.int (zi jn4v0))]) (S' := [.ref x]) rfl ?_
            refine gs_gtk rfl (by decide) rfl hS.1 tx rfl rfl ehg ?_
            by_cases hc7 : (hg : Int) = 0
            · refine gy_ifT (pc' := 144) rfl (by decide) (by decide) (by omega) hc7 ?_
              refine gz_s 2 (pc' := 149) (L' := [some (.ref x), some (.int (zi jn3v0)), some (.int (zi jn4v0))]) (S' := [.int (zi 1)]) rfl ?_
              exact gz_end (I := .ireturn) (len := 1) rfl (Or.inl rfl) ⟨hS, 1, gfin_z rfl rfl (by omega), (by omega), (by omega), (by omega)⟩
            · refine gy_ifF rfl (by decide) (by decide) (by omega) hc7 ?_
              refine gz_s 1 (pc' := 132) (L' := [some (.ref x), some (.int (zi jn3v0)), some (.int (zi jn4v0))]) (S' := [.ref x]) rfl ?_
              refine gs_gtk rfl (by decide) rfl hS.1 tx rfl rfl ehg ?_
              refine gz_s 1 (pc' := 136) (L' := [some (.ref x), some (.int (zi jn3v0)), some (.int (zi jn4v0))]) (S' := [.ref x, .int (zi hg)]) rfl ?_
              refine gs_gtk rfl (by decide) rfl hS.1 tx rfl rfl elw ?_
              refine gy_s 2 (pc' := 141) (L' := [some (.ref x), some (.int (zi jn3v0)), some (.int (zi jn4v0))]) (S' := [.int ((zi lw) + (zi 1)), .int (zi hg)]) (L2 := [some (.ref x), some (.int (zi jn3v0)), some (.int (zi jn4v0))]) (S2 := [.int (zi (lw + 1)), .int (zi hg)]) rfl (by simp only [zi_add, zi_sub, zi_mul, zi_neg, zi_and1, zi_and7, zi_and15, zi_and31, zi_and255]) (by simp only [zi_add, zi_sub, zi_mul, zi_neg, zi_and1, zi_and7, zi_and15, zi_and31, zi_and255]) ?_
              by_cases hc8 : ¬ (hg : Int) = lw + 1
              · refine gy_icT (pc' := 148) rfl (by decide) (by decide) (by omega) (by omega) hc8 ?_
                refine gz_s 1 (pc' := 149) (L' := [some (.ref x), some (.int (zi jn3v0)), some (.int (zi jn4v0))]) (S' := [.int (zi 0)]) rfl ?_
                exact gz_end (I := .ireturn) (len := 1) rfl (Or.inl rfl) ⟨hS, 0, gfin_z rfl rfl (by omega), (by omega), (by omega), (by omega)⟩
              · refine gy_icF rfl (by decide) (by decide) (by omega) (by omega) hc8 ?_
                refine gz_s 2 (pc' := 149) (L' := [some (.ref x), some (.int (zi jn3v0)), some (.int (zi jn4v0))]) (S' := [.int (zi 1)]) rfl ?_
                exact gz_end (I := .ireturn) (len := 1) rfl (Or.inl rfl) ⟨hS, 1, gfin_z rfl rfl (by omega), (by omega), (by omega), (by omega)⟩
        · refine gy_ifF rfl (by decide) (by decide) (by omega) hc5 ?_
          refine gz_s 1 (pc' := 112) (L' := [some (.ref x), some (.int (zi jn3v0)), some (.int (zi jn4v0))]) (S' := [.int (zi jn4v0)]) rfl ?_
          by_cases hc9 : (jn4v0 : Int) = 0
          · refine gy_ifT (pc' := 148) rfl (by decide) (by decide) (by omega) hc9 ?_
            refine gz_s 1 (pc' := 149) (L' := [some (.ref x), some (.int (zi jn3v0)), some (.int (zi jn4v0))]) (S' := [.int (zi 0)]) rfl ?_
            exact gz_end (I := .ireturn) (len := 1) rfl (Or.inl rfl) ⟨hS, 0, gfin_z rfl rfl (by omega), (by omega), (by omega), (by omega)⟩
          · refine gy_ifF rfl (by decide) (by decide) (by omega) hc9 ?_
            refine gz_s 1 (pc' := 116) (L' := [some (.ref x), some (.int (zi jn3v0)), some (.int (zi jn4v0))]) (S' := [.ref x]) rfl ?_
            refine gs_gtk rfl (by decide) rfl hS.1 tx rfl rfl elw ?_
            refine gz_s 1 (pc' := 121) (L' := [some (.ref x), some (.int (zi jn3v0)), some (.int (zi jn4v0))]) (S' := [.int (zi 13), .int (zi lw)]) rfl ?_
            by_cases hc10 : (13 : Int) < lw
            · refine gy_icT (pc' := 148) rfl (by decide) (by decide) (by omega) (by omega) hc10 ?_
              refine gz_s 1 (pc' := 149) (L' := [some (.ref x), some (.int (zi jn3v0)), some (.int (zi jn4v0))]) (S' := [.int (zi 0)]) rfl ?_
              exact gz_end (I := .ireturn) (len := 1) rfl (Or.inl rfl) ⟨hS, 0, gfin_z rfl rfl (by omega), (by omega), (by omega), (by omega)⟩
            · refine gy_icF rfl (by decide) (by decide) (by omega) (by omega) hc10 ?_
              refine gz_s 1 (pc' := 125) (L' := [some (.ref x), some (.int (zi jn3v0)), some (.int (zi jn4v0))]) (S' := [.ref x]) rfl ?_
              refine gs_gtk rfl (by decide) rfl hS.1 tx rfl rfl ehg ?_
              by_cases hc11 : (hg : Int) = 0
              · refine gy_ifT (pc' := 144) rfl (by decide) (by decide) (by omega) hc11 ?_
                refine gz_s 2 (pc' := 149) (L' := [some (.ref x), some (.int (zi jn3v0)), some (.int (zi jn4v0))]) (S' := [.int (zi 1)]) rfl ?_
                exact gz_end (I := .ireturn) (len := 1) rfl (Or.inl rfl) ⟨hS, 1, gfin_z rfl rfl (by omega), (by omega), (by omega), (by omega)⟩
              · refine gy_ifF rfl (by decide) (by decide) (by omega) hc11 ?_
                refine gz_s 1 (pc' := 132) (L' := [some (.ref x), some (.int (zi jn3v0)), some (.int (zi jn4v0))]) (S' := [.ref x]) rfl ?_
                refine gs_gtk rfl (by decide) rfl hS.1 tx rfl rfl ehg ?_
                refine gz_s 1 (pc' := 136) (L' := [some (.ref x), some (.int (zi jn3v0)), some (.int (zi jn4v0))]) (S' := [.ref x, .int (zi hg)]) rfl ?_
                refine gs_gtk rfl (by decide) rfl hS.1 tx rfl rfl elw ?_
                refine gy_s 2 (pc' := 141) (L' := [some (.ref x), some (.int (zi jn3v0)), some (.int (zi jn4v0))]) (S' := [.int ((zi lw) + (zi 1)), .int (zi hg)]) (L2 := [some (.ref x), some (.int (zi jn3v0)), some (.int (zi jn4v0))]) (S2 := [.int (zi (lw + 1)), .int (zi hg)]) rfl (by simp only [zi_add, zi_sub, zi_mul, zi_neg, zi_and1, zi_and7, zi_and15, zi_and31, zi_and255]) (by simp only [zi_add, zi_sub, zi_mul, zi_neg, zi_and1, zi_and7, zi_and15, zi_and31, zi_and255]) ?_
                by_cases hc12 : ¬ (hg : Int) = lw + 1
                · refine gy_icT (pc' := 148) rfl (by decide) (by decide) (by omega) (by omega) hc12 ?_
                  refine gz_s 1 (pc' := 149) (L' := [some (.ref x), some (.int (zi jn3v0)), some (.int (zi jn4v0))]) (S' := [.int (zi 0)]) rfl ?_
                  exact gz_end (I := .ireturn) (len := 1) rfl (Or.inl rfl) ⟨hS, 0, gfin_z rfl rfl (by omega), (by omega), (by omega), (by omega)⟩
                · refine gy_icF rfl (by decide) (by decide) (by omega) (by omega) hc12 ?_
                  refine gz_s 2 (pc' := 149) (L' := [some (.ref x), some (.int (zi jn3v0)), some (.int (zi jn4v0))]) (S' := [.int (zi 1)]) rfl ?_
                  exact gz_end (I := .ireturn) (len := 1) rfl (Or.inl rfl) ⟨hS, 1, gfin_z rfl rfl (by omega), (by omega), (by omega), (by omega)⟩
      by_cases hc13 : (fr : Int) < 1
      · refine gy_icT (pc' := 105) rfl (by decide) (by decide) (by omega) (by omega) hc13 ?_
        refine gz_s 1 (pc' := 106) (L' := [some (.ref x), some (.int (zi jn3v0)), none]) (S' := [.int (zi 0)]) rfl ?_
        exact jn4 0 (by omega)
      · refine gy_icF rfl (by decide) (by decide) (by omega) (by omega) hc13 ?_
        refine gz_s 1 (pc' := 75) (L' := [some (.ref x), some (.int (zi jn3v0)), none]) (S' := [.ref x]) rfl ?_
        refine gs_gtk rfl (by decide) rfl hS.1 tx rfl rfl efr ?_
        refine gz_s 1 (pc' := 79) (L' := [some (.ref x), some (.int (zi jn3v0)), none]) (S' := [.ref x, .int (zi fr)]) rfl ?_
        refine gs_gtk rfl (by decide) rfl hS.1 tx rfl rfl ett ?_
        by_cases hc14 : (tt : Int) < fr
        · refine gy_icT (pc' := 105) rfl (by decide) (by decide) (by omega) (by omega) hc14 ?_
          refine gz_s 1 (pc' := 106) (L' := [some (.ref x), some (.int (zi jn3v0)), none]) (S' := [.int (zi 0)]) rfl ?_
          exact jn4 0 (by omega)
        · refine gy_icF rfl (by decide) (by decide) (by omega) (by omega) hc14 ?_
          refine gz_s 1 (pc' := 86) (L' := [some (.ref x), some (.int (zi jn3v0)), none]) (S' := [.ref x]) rfl ?_
          refine gs_gtk rfl (by decide) rfl hS.1 tx rfl rfl ett ?_
          refine gz_s 1 (pc' := 91) (L' := [some (.ref x), some (.int (zi jn3v0)), none]) (S' := [.int (zi 63), .int (zi tt)]) rfl ?_
          by_cases hc15 : (63 : Int) < tt
          · refine gy_icT (pc' := 105) rfl (by decide) (by decide) (by omega) (by omega) hc15 ?_
            refine gz_s 1 (pc' := 106) (L' := [some (.ref x), some (.int (zi jn3v0)), none]) (S' := [.int (zi 0)]) rfl ?_
            exact jn4 0 (by omega)
          · refine gy_icF rfl (by decide) (by decide) (by omega) (by omega) hc15 ?_
            refine gz_s 1 (pc' := 95) (L' := [some (.ref x), some (.int (zi jn3v0)), none]) (S' := [.ref x]) rfl ?_
            refine gs_gtk rfl (by decide) rfl hS.1 tx rfl rfl esg ?_
            by_cases hc16 : (sg : Int) = 0
            · refine gy_ifT (pc' := 105) rfl (by decide) (by decide) (by omega) hc16 ?_
              refine gz_s 1 (pc' := 106) (L' := [some (.ref x), some (.int (zi jn3v0)), none]) (S' := [.int (zi 0)]) rfl ?_
              exact jn4 0 (by omega)
            · refine gy_ifF rfl (by decide) (by decide) (by omega) hc16 ?_
              refine gz_s 2 (pc' := 106) (L' := [some (.ref x), some (.int (zi jn3v0)), none]) (S' := [.int (zi 1)]) rfl ?_
              exact jn4 1 (by omega)
    by_cases hc17 : ¬ (fr : Int) = 0
    · refine gy_ifT (pc' := 64) rfl (by decide) (by decide) (by omega) hc17 ?_
      refine gz_s 1 (pc' := 65) (L' := [some (.ref x), none, none]) (S' := [.int (zi 0)]) rfl ?_
      exact jn3 0 (by omega)
    · refine gy_ifF rfl (by decide) (by decide) (by omega) hc17 ?_
      refine gz_s 1 (pc' := 54) (L' := [some (.ref x), none, none]) (S' := [.ref x]) rfl ?_
      refine gs_gtk rfl (by decide) rfl hS.1 tx rfl rfl ett ?_
      by_cases hc18 : ¬ (tt : Int) = 0
      · refine gy_ifT (pc' := 64) rfl (by decide) (by decide) (by omega) hc18 ?_
        refine gz_s 1 (pc' := 65) (L' := [some (.ref x), none, none]) (S' := [.int (zi 0)]) rfl ?_
        exact jn3 0 (by omega)
      · refine gy_ifF rfl (by decide) (by decide) (by omega) hc18 ?_
        refine gz_s 2 (pc' := 65) (L' := [some (.ref x), none, none]) (S' := [.int (zi 1)]) rfl ?_
        exact jn3 1 (by omega)
  · refine gy_ifF rfl (by decide) (by decide) (by omega) hc2 ?_
    refine gz_s 1 (pc' := 11) (L' := [some (.ref x), none, none]) (S' := [.ref x]) rfl ?_
    refine gs_gtk rfl (by decide) rfl hS.1 tx rfl rfl efr ?_
    by_cases hc19 : ¬ (fr : Int) = 0
    · refine gy_ifT (pc' := 44) rfl (by decide) (by decide) (by omega) hc19 ?_
      refine gz_s 1 (pc' := 45) (L' := [some (.ref x), none, none]) (S' := [.int (zi 0)]) rfl ?_
      exact gz_end (I := .ireturn) (len := 1) rfl (Or.inl rfl) ⟨hS, 0, gfin_z rfl rfl (by omega), (by omega), (by omega), (by omega)⟩
    · refine gy_ifF rfl (by decide) (by decide) (by omega) hc19 ?_
      refine gz_s 1 (pc' := 18) (L' := [some (.ref x), none, none]) (S' := [.ref x]) rfl ?_
      refine gs_gtk rfl (by decide) rfl hS.1 tx rfl rfl ett ?_
      refine gz_s 1 (pc' := 23) (L' := [some (.ref x), none, none]) (S' := [.int (zi 63), .int (zi tt)]) rfl ?_
      by_cases hc20 : ¬ (tt : Int) = 63
      · refine gy_icT (pc' := 44) rfl (by decide) (by decide) (by omega) (by omega) hc20 ?_
        refine gz_s 1 (pc' := 45) (L' := [some (.ref x), none, none]) (S' := [.int (zi 0)]) rfl ?_
        exact gz_end (I := .ireturn) (len := 1) rfl (Or.inl rfl) ⟨hS, 0, gfin_z rfl rfl (by omega), (by omega), (by omega), (by omega)⟩
      · refine gy_icF rfl (by decide) (by decide) (by omega) (by omega) hc20 ?_
        refine gz_s 1 (pc' := 27) (L' := [some (.ref x), none, none]) (S' := [.ref x]) rfl ?_
        refine gs_gtk rfl (by decide) rfl hS.1 tx rfl rfl ehg ?_
        by_cases hc21 : ¬ (hg : Int) = 0
        · refine gy_ifT (pc' := 44) rfl (by decide) (by decide) (by omega) hc21 ?_
          refine gz_s 1 (pc' := 45) (L' := [some (.ref x), none, none]) (S' := [.int (zi 0)]) rfl ?_
          exact gz_end (I := .ireturn) (len := 1) rfl (Or.inl rfl) ⟨hS, 0, gfin_z rfl rfl (by omega), (by omega), (by omega), (by omega)⟩
        · refine gy_ifF rfl (by decide) (by decide) (by omega) hc21 ?_
          refine gz_s 1 (pc' := 34) (L' := [some (.ref x), none, none]) (S' := [.ref x]) rfl ?_
          refine gs_gtk rfl (by decide) rfl hS.1 tx rfl rfl elw ?_
          by_cases hc22 : ¬ (lw : Int) = 0
          · refine gy_ifT (pc' := 44) rfl (by decide) (by decide) (by omega) hc22 ?_
            refine gz_s 1 (pc' := 45) (L' := [some (.ref x), none, none]) (S' := [.int (zi 0)]) rfl ?_
            exact gz_end (I := .ireturn) (len := 1) rfl (Or.inl rfl) ⟨hS, 0, gfin_z rfl rfl (by omega), (by omega), (by omega), (by omega)⟩
          · refine gy_ifF rfl (by decide) (by decide) (by omega) hc22 ?_
            refine gz_s 2 (pc' := 45) (L' := [some (.ref x), none, none]) (S' := [.int (zi 1)]) rfl ?_
            exact gz_end (I := .ireturn) (len := 1) rfl (Or.inl rfl) ⟨hS, 1, gfin_z rfl rfl (by omega), (by omega), (by omega), (by omega)⟩
set_option maxRecDepth 20000 in
set_option maxHeartbeats 4000000 in
theorem cl_Reader_readScanHead (d : Nat) {ty : Nat → Nat} {h : gH} (hJ : gJ rT 1027 ty h) (x : Nat) (tx : ty x = 65) (a : Int) (ra : 0 ≤ a ∧ a ≤ 4100) (n : Int) (rn : 0 ≤ n ∧ n ≤ 65535) (src : Nat) (esrc : h.2.2.2.2 x 0 = .ref src) (tsrc : ty src = 51) (pic : Nat) (epic : h.2.2.2.2 x 1 = .ref pic) (tpic : ty pic = 54) (sc : Nat) (esc : h.2.2.2.2 x 2 = .ref sc) (tsc : ty sc = 66) (sz : Int) (esz : h.2.2.2.2 src 1 = .int (zi sz)) (rsz : 0 ≤ sz ∧ sz ≤ 2000) (cn : Int) (ecn : h.2.2.2.2 pic 7 = .int (zi cn)) (rcn : 1 ≤ cn ∧ cn ≤ 3) (uq : gUq ty) : gz gPP gGG gcn (d + 3) gt36 0 (gent [.ref x, .int (zi a), .int (zi n)] 7) [] h (fun q _ => gSs rT 1027 ty [54009, 66002, 66003, 66004, 66005, 66011, 66012, 82009, 82010, 83009, 83010, 84009, 84010] h q.2.2 ∧ ∃ z sg sb fr tt : Int, gfin gt36 q.1 q.2.1 = some (some (.int (zi z))) ∧ (-3) ≤ z ∧ z ≤ 4400 ∧ q.2.2.2.2.2.2 sc 11 = .int (zi sg) ∧ 0 ≤ sg ∧ sg ≤ 1 ∧ q.2.2.2.2.2.2 sc 12 = .int (zi sb) ∧ 0 ≤ sb ∧ sb ≤ 2 ∧ q.2.2.2.2.2.2 sc 2 = .int (zi fr) ∧ (-1) ≤ fr ∧ fr ≤ 255 ∧ q.2.2.2.2.2.2 sc 3 = .int (zi tt) ∧ (-1) ≤ tt ∧ tt ≤ 255 ∧ (z = -3 → (sb < cn ∧ 0 ≤ fr ∧ fr ≤ tt ∧ tt ≤ 63)) ∧ (z = -3 → (sg = 1 ∨ sg = 0)) ∧ (z = -3 ∨ a ≤ z)) := by
  have hS : gSs rT 1027 ty [54009, 66002, 66003, 66004, 66005, 66011, 66012, 82009, 82010, 83009, 83010, 84009, 84010] h h := gSs.rf hJ
  refine gz_s 1 (pc' := 1) (L' := [some (.ref x), some (.int (zi a)), some (.int (zi n)), none, none, none, none]) (S' := [.ref x]) rfl ?_
  refine gs_gtk rfl (by decide) rfl hS.1 tx rfl rfl esrc ?_
  refine gy_s 3 (pc' := 7) (L' := [some (.ref x), some (.int (zi a)), some (.int (zi n)), none, none, none, none]) (S' := [.int ((zi a) + (zi 2)), .ref src]) (L2 := [some (.ref x), some (.int (zi a)), some (.int (zi n)), none, none, none, none]) (S2 := [.int (zi (a + 2)), .ref src]) rfl (by simp only [zi_add, zi_sub, zi_mul, zi_neg, zi_and1, zi_and7, zi_and15, zi_and31, zi_and255]) (by simp only [zi_add, zi_sub, zi_mul, zi_neg, zi_and1, zi_and7, zi_and15, zi_and31, zi_and255]) ?_
  refine gz_call rfl (by decide) rfl (by decide) (by decide) (gcal_of rfl rfl rfl (Nat.le_of_ble_eq_true rfl) (gJ.recv (G := gGG) hS.1 tsrc rfl rfl)) (cl_Collected_byteAt _ hS.1 src tsrc (a + 2) (by omega) sz esz (by omega) uq) (fun q1 _ wq1 => ?_)
  obtain ⟨pq1, oq1, hq1⟩ := q1
  obtain ⟨xq1, zq1, gq1, aq1, bq1, uq1_0⟩ := wq1
  refine ⟨_, gq1, ?_⟩
  show gz gPP gGG gcn _ _ 10 [some (.ref x), some (.int (zi a)), some (.int (zi n)), none, none, none, none] [.int (zi zq1)] hq1 _
  have sq1 : gSs rT 1027 ty [54009, 66002, 66003, 66004, 66005, 66011, 66012, 82009, 82010, 83009, 83010, 84009, 84010] h hq1 := gSs.tr hS xq1 (by decide)
  have s2 := (xq1.2.2.2.2.2 x 0 (by rw [tx]; decide)).trans esrc
  have s3 := (xq1.2.2.2.2.2 x 1 (by rw [tx]; decide)).trans epic
  have s4 := (xq1.2.2.2.2.2 x 2 (by rw [tx]; decide)).trans esc
  have s5 := (xq1.2.2.2.2.2 src 1 (by rw [tsrc]; decide)).trans esz
  have s6 := (xq1.2.2.2.2.2 pic 7 (by rw [tpic]; decide)).trans ecn
  refine gz_s 3 (pc' := 13) (L' := [some (.ref x), some (.int (zi a)), some (.int (zi n)), some (.int (zi zq1)), none, none, none]) (S' := [.int (zi 1), .int (zi zq1)]) rfl ?_
  have jn7 : ∀ (jn7v0 : Int), ((0 ≤ jn7v0) ∧ (jn7v0 ≤ 1) ∧ (jn7v0 = 1 → (zq1 = 1 ∨ zq1 = cn))) → gz gPP gGG gcn (d + 3) gt36 32 [some (.ref x), some (.int (zi a)), some (.int (zi n)), some (.int (zi zq1)), none, none, none] [.int (zi jn7v0)] hq1 (fun q _ => gSs rT 1027 ty [54009, 66002, 66003, 66004, 66005, 66011, 66012, 82009, 82010, 83009, 83010, 84009, 84010] h q.2.2 ∧ ∃ z sg sb fr tt : Int, gfin gt36 q.1 q.2.1 = some (some (.int (zi z))) ∧ (-3) ≤ z ∧ z ≤ 4400 ∧ q.2.2.2.2.2.2 sc 11 = .int (zi sg) ∧ 0 ≤ sg ∧ sg ≤ 1 ∧ q.2.2.2.2.2.2 sc 12 = .int (zi sb) ∧ 0 ≤ sb ∧ sb ≤ 2 ∧ q.2.2.2.2.2.2 sc 2 = .int (zi fr) ∧ (-1) ≤ fr ∧ fr ≤ 255 ∧ q.2.2.2.2.2.2 sc 3 = .int (zi tt) ∧ (-1) ≤ tt ∧ tt ≤ 255 ∧ (z = -3 → (sb < cn ∧ 0 ≤ fr ∧ fr ≤ tt ∧ tt ≤ 63)) ∧ (z = -3 → (sg = 1 ∨ sg = 0)) ∧ (z = -3 ∨ a ≤ z)) := by
    intro jn7v0 jn7d
    refine gz_s 3 (pc' := 37) (L' := [some (.ref x), some (.int (zi a)), some (.int (zi n)), some (.int (zi zq1)), some (.int (zi jn7v0)), none, none]) (S' := [.int (zi 6), .int (zi n)]) rfl ?_
    by_cases hc8 : (n : Int) < 6
    · refine gy_icT (pc' := 55) rfl (by decide) (by decide) (by omega) (by omega) hc8 ?_
      refine gz_s 1 (pc' := 56) (L' := [some (.ref x), some (.int (zi a)), some (.int (zi n)), some (.int (zi zq1)), some (.int (zi jn7v0)), none, none]) (S' := [.int (zi a)]) rfl ?_
      obtain ⟨z9, ez9, az9, bz9⟩ := gJ.int (k := 11) (G := gGG) sq1.1 tsc rfl rfl rfl
      obtain ⟨z10, ez10, az10, bz10⟩ := gJ.int (k := 12) (G := gGG) sq1.1 tsc rfl rfl rfl
      obtain ⟨z11, ez11, az11, bz11⟩ := gJ.int (k := 2) (G := gGG) sq1.1 tsc rfl rfl rfl
      obtain ⟨z12, ez12, az12, bz12⟩ := gJ.int (k := 3) (G := gGG) sq1.1 tsc rfl rfl rfl
      exact gz_end (I := .ireturn) (len := 1) rfl (Or.inl rfl) ⟨sq1, a, z9, z10, z11, z12, rfl, (by omega), (by omega), ez9, (by omega), (by omega), ez10, (by omega), (by omega), ez11, (by omega), (by omega), ez12, (by omega), (by omega), (by omega), (by omega), (by omega)⟩
    · refine gy_icF rfl (by decide) (by decide) (by omega) (by omega) hc8 ?_
      refine gz_s 1 (pc' := 42) (L' := [some (.ref x), some (.int (zi a)), some (.int (zi n)), some (.int (zi zq1)), some (.int (zi jn7v0)), none, none]) (S' := [.int (zi jn7v0)]) rfl ?_
      by_cases hc13 : (jn7v0 : Int) = 0
      · refine gy_ifT (pc' := 57) rfl (by decide) (by decide) (by omega) hc13 ?_
        refine gz_s 1 (pc' := 59) (L' := [some (.ref x), some (.int (zi a)), some (.int (zi n)), some (.int (zi zq1)), some (.int (zi jn7v0)), none, none]) (S' := [.int (zi jn7v0)]) rfl ?_
        refine gy_ifF rfl (by decide) (by decide) (by omega) (by first | (simp [zc]; done) | (simp only [zc]; omega)) ?_
        refine gy_s 3 (pc' := 65) (L' := [some (.ref x), some (.int (zi a)), some (.int (zi n)), some (.int (zi zq1)), some (.int (zi jn7v0)), none, none]) (S' := [.int ((zi a) + (zi 2))]) (L2 := [some (.ref x), some (.int (zi a)), some (.int (zi n)), some (.int (zi zq1)), some (.int (zi jn7v0)), none, none]) (S2 := [.int (zi (a + 2))]) rfl (by simp only [zi_add, zi_sub, zi_mul, zi_neg, zi_and1, zi_and7, zi_and15, zi_and31, zi_and255]) (by simp only [zi_add, zi_sub, zi_mul, zi_neg, zi_and1, zi_and7, zi_and15, zi_and31, zi_and255]) ?_
        obtain ⟨z14, ez14, az14, bz14⟩ := gJ.int (k := 11) (G := gGG) sq1.1 tsc rfl rfl rfl
        obtain ⟨z15, ez15, az15, bz15⟩ := gJ.int (k := 12) (G := gGG) sq1.1 tsc rfl rfl rfl
        obtain ⟨z16, ez16, az16, bz16⟩ := gJ.int (k := 2) (G := gGG) sq1.1 tsc rfl rfl rfl
        obtain ⟨z17, ez17, az17, bz17⟩ := gJ.int (k := 3) (G := gGG) sq1.1 tsc rfl rfl rfl
        exact gz_end (I := .ireturn) (len := 1) rfl (Or.inl rfl) ⟨sq1, a + 2, z14, z15, z16, z17, rfl, (by omega), (by omega), ez14, (by omega), (by omega), ez15, (by omega), (by omega), ez16, (by omega), (by omega), ez17, (by omega), (by omega), (by omega), (by omega), (by omega)⟩
      · refine gy_ifF rfl (by decide) (by decide) (by omega) hc13 ?_
        refine gy_s 6 (pc' := 52) (L' := [some (.ref x), some (.int (zi a)), some (.int (zi n)), some (.int (zi zq1)), some (.int (zi jn7v0)), none, none]) (S' := [.int ((zi 6) + ((zi 2) * (zi zq1))), .int (zi n)]) (L2 := [some (.ref x), some (.int (zi a)), some (.int (zi n)), some (.int (zi zq1)), some (.int (zi jn7v0)), none, none]) (S2 := [.int (zi (6 + (2 * zq1))), .int (zi n)]) rfl (by simp only [zi_add, zi_sub, zi_mul, zi_neg, zi_and1, zi_and7, zi_and15, zi_and31, zi_and255]) (by simp only [zi_add, zi_sub, zi_mul, zi_neg, zi_and1, zi_and7, zi_and15, zi_and31, zi_and255]) ?_
        by_cases hc18 : (n : Int) = 6 + (2 * zq1)
        · refine gy_icT (pc' := 57) rfl (by decide) (by decide) (by omega) (by omega) hc18 ?_
          refine gz_s 1 (pc' := 59) (L' := [some (.ref x), some (.int (zi a)), some (.int (zi n)), some (.int (zi zq1)), some (.int (zi jn7v0)), none, none]) (S' := [.int (zi jn7v0)]) rfl ?_
          refine gy_ifT (pc' := 66) rfl (by decide) (by decide) (by omega) (by first | (simp [zc]; done) | (simp only [zc]; omega)) ?_
          refine gz_s 2 (pc' := 69) (L' := [some (.ref x), some (.int (zi a)), some (.int (zi n)), some (.int (zi zq1)), some (.int (zi jn7v0)), some (.int (zi 0)), none]) (S' := []) rfl ?_
          obtain ⟨z19, ez19, az19, bz19⟩ := gJ.int (k := 11) (G := gGG) sq1.1 tsc rfl rfl rfl
          obtain ⟨z20, ez20, az20, bz20⟩ := gJ.int (k := 12) (G := gGG) sq1.1 tsc rfl rfl rfl
          have lp21 : ∀ (fu : Nat) (h22 : gH) (i : Int) (sgv : Int) (sbv : Int), (4 - i).toNat < fu → gSs rT 1027 ty [54009, 66002, 66003, 66004, 66005, 66011, 66012, 82009, 82010, 83009, 83010, 84009, 84010] h h22 → (0 ≤ i ∧ i ≤ 3) → (0 ≤ sgv ∧ sgv ≤ 1) → (0 ≤ sbv ∧ sbv ≤ 2) → (i ≤ zq1) → (1 ≤ i → sbv < cn) → h22.2.2.2.2 x 0 = .ref src → h22.2.2.2.2 x 1 = .ref pic → h22.2.2.2.2 x 2 = .ref sc → h22.2.2.2.2 src 1 = .int (zi sz) → h22.2.2.2.2 pic 7 = .int (zi cn) → h22.2.2.2.2 sc 11 = .int (zi sgv) → h22.2.2.2.2 sc 12 = .int (zi sbv) → gz gPP gGG gcn (d + 3) gt36 69 [some (.ref x), some (.int (zi a)), some (.int (zi n)), some (.int (zi zq1)), some (.int (zi jn7v0)), some (.int (zi i)), none] [] h22 (fun q _ => gSs rT 1027 ty [54009, 66002, 66003, 66004, 66005, 66011, 66012, 82009, 82010, 83009, 83010, 84009, 84010] h q.2.2 ∧ ∃ z sg sb fr tt : Int, gfin gt36 q.1 q.2.1 = some (some (.int (zi z))) ∧ (-3) ≤ z ∧ z ≤ 4400 ∧ q.2.2.2.2.2.2 sc 11 = .int (zi sg) ∧ 0 ≤ sg ∧ sg ≤ 1 ∧ q.2.2.2.2.2.2 sc 12 = .int (zi sb) ∧ 0 ≤ sb ∧ sb ≤ 2 ∧ q.2.2.2.2.2.2 sc 2 = .int (zi fr) ∧ (-1) ≤ fr ∧ fr ≤ 255 ∧ q.2.2.2.2.2.2 sc 3 = .int (zi tt) ∧ (-1) ≤ tt ∧ tt ≤ 255 ∧ (z = -3 → (sb < cn ∧ 0 ≤ fr ∧ fr ≤ tt ∧ tt ≤ 63)) ∧ (z = -3 → (sg = 1 ∨ sg = 0)) ∧ (z = -3 ∨ a ≤ z)) := by
            intro fu
            induction fu with
            | zero => intro h22 i sgv sbv hm; exact absurd hm (Nat.not_lt_zero _)
            | succ fu ihlp21 =>
              intro h22 i sgv sbv lp21m sh22 lp21f0 lp21f1 lp21f2 lp21f3 lp21f4 lp21k0 lp21k1 lp21k2 lp21k3 lp21k4 lp21k5 lp21k6
              refine gz_s 2 (pc' := 72) (L' := [some (.ref x), some (.int (zi a)), some (.int (zi n)), some (.int (zi zq1)), some (.int (zi jn7v0)), some (.int (zi i)), none]) (S' := [.int (zi zq1), .int (zi i)]) rfl ?_
              by_cases hc23 : (zq1 : Int) ≤ i
              · refine gy_icT (pc' := 107) rfl (by decide) (by decide) (by omega) (by omega) hc23 ?_
                refine gy_s 9 (pc' := 117) (L' := [some (.ref x), some (.int (zi a)), some (.int (zi n)), some (.int (zi zq1)), some (.int (zi jn7v0)), some (.int (((zi a) + (zi 3)) + ((zi 2) * (zi zq1)))), none]) (S' := [.ref x]) (L2 := [some (.ref x), some (.int (zi a)), some (.int (zi n)), some (.int (zi zq1)), some (.int (zi jn7v0)), some (.int (zi ((a + 3) + (2 * zq1)))), none]) (S2 := [.ref x]) rfl (by simp only [zi_add, zi_sub, zi_mul, zi_neg, zi_and1, zi_and7, zi_and15, zi_and31, zi_and255]) (by simp only [zi_add, zi_sub, zi_mul, zi_neg, zi_and1, zi_and7, zi_and15, zi_and31, zi_and255]) ?_
                refine gs_gtk rfl (by decide) rfl sh22.1 tx rfl rfl lp21k2 ?_
                refine gz_s 1 (pc' := 121) (L' := [some (.ref x), some (.int (zi a)), some (.int (zi n)), some (.int (zi zq1)), some (.int (zi jn7v0)), some (.int (zi ((a + 3) + (2 * zq1)))), none]) (S' := [.ref x, .ref sc]) rfl ?_
                refine gs_gtk rfl (by decide) rfl sh22.1 tx rfl rfl lp21k0 ?_
                refine gz_s 1 (pc' := 126) (L' := [some (.ref x), some (.int (zi a)), some (.int (zi n)), some (.int (zi zq1)), some (.int (zi jn7v0)), some (.int (zi ((a + 3) + (2 * zq1)))), none]) (S' := [.int (zi ((a + 3) + (2 * zq1))), .ref src, .ref sc]) rfl ?_
                refine gz_call rfl (by decide) rfl (by decide) (by decide) (gcal_of rfl rfl rfl (Nat.le_of_ble_eq_true rfl) (gJ.recv (G := gGG) sh22.1 tsrc rfl rfl)) (cl_Collected_byteAt _ sh22.1 src tsrc ((a + 3) + (2 * zq1)) (by omega) sz lp21k3 (by omega) uq) (fun q24 _ wq24 => ?_)
                obtain ⟨pq24, oq24, hq24⟩ := q24
                obtain ⟨xq24, zq24, gq24, aq24, bq24, uq24_0⟩ := wq24
                refine ⟨_, gq24, ?_⟩
                show gz gPP gGG gcn _ _ 129 [some (.ref x), some (.int (zi a)), some (.int (zi n)), some (.int (zi zq1)), some (.int (zi jn7v0)), some (.int (zi ((a + 3) + (2 * zq1)))), none] [.int (zi zq24), .ref sc] hq24 _
                have sq24 : gSs rT 1027 ty [54009, 66002, 66003, 66004, 66005, 66011, 66012, 82009, 82010, 83009, 83010, 84009, 84010] h hq24 := gSs.tr sh22 xq24 (by decide)
                have s25 := (xq24.2.2.2.2.2 x 0 (by rw [tx]; decide)).trans lp21k0
                have s26 := (xq24.2.2.2.2.2 x 1 (by rw [tx]; decide)).trans lp21k1
                have s27 := (xq24.2.2.2.2.2 x 2 (by rw [tx]; decide)).trans lp21k2
                have s28 := (xq24.2.2.2.2.2 src 1 (by rw [tsrc]; decide)).trans lp21k3
                have s29 := (xq24.2.2.2.2.2 pic 7 (by rw [tpic]; decide)).trans lp21k4
                have s30 := (xq24.2.2.2.2.2 sc 11 (by rw [tsc]; decide)).trans lp21k5
                have s31 := (xq24.2.2.2.2.2 sc 12 (by rw [tsc]; decide)).trans lp21k6
                refine gs_put rfl (by decide) rfl sq24 tsc rfl rfl rfl rfl (Or.inl rfl) (by decide) (by omega) (by omega) (fun h32 sh32 eh32 fh32 => ?_)
                have s33 := (fh32 x 0 (fun q => absurd q.2 (by decide))).trans s25
                have s34 := (fh32 x 1 (fun q => absurd q.2 (by decide))).trans s26
                have s35 := (fh32 x 2 (fun q => absurd (((tx).symm.trans (congrArg ty q.1)).trans tsc) (by decide))).trans s27
                have s36 := (fh32 src 1 (fun q => absurd q.2 (by decide))).trans s28
                have s37 := (fh32 pic 7 (fun q => absurd q.2 (by decide))).trans s29
                have s38 := (fh32 sc 11 (fun q => absurd q.2 (by decide))).trans s30
                have s39 := (fh32 sc 12 (fun q => absurd q.2 (by decide))).trans s31
                refine gz_s 1 (pc' := 133) (L' := [some (.ref x), some (.int (zi a)), some (.int (zi n)), some (.int (zi zq1)), some (.int (zi jn7v0)), some (.int (zi ((a + 3) + (2 * zq1)))), none]) (S' := [.ref x]) rfl ?_
                refine gs_gtk rfl (by decide) rfl sh32.1 tx rfl rfl s35 ?_
                refine gz_s 1 (pc' := 137) (L' := [some (.ref x), some (.int (zi a)), some (.int (zi n)), some (.int (zi zq1)), some (.int (zi jn7v0)), some (.int (zi ((a + 3) + (2 * zq1)))), none]) (S' := [.ref x, .ref sc]) rfl ?_
                refine gs_gtk rfl (by decide) rfl sh32.1 tx rfl rfl s33 ?_
                refine gy_s 3 (pc' := 144) (L' := [some (.ref x), some (.int (zi a)), some (.int (zi n)), some (.int (zi zq1)), some (.int (zi jn7v0)), some (.int (zi ((a + 3) + (2 * zq1)))), none]) (S' := [.int ((zi ((a + 3) + (2 * zq1))) + (zi 1)), .ref src, .ref sc]) (L2 := [some (.ref x), some (.int (zi a)), some (.int (zi n)), some (.int (zi zq1)), some (.int (zi jn7v0)), some (.int (zi ((a + 3) + (2 * zq1)))), none]) (S2 := [.int (zi (((a + 3) + (2 * zq1)) + 1)), .ref src, .ref sc]) rfl (by simp only [zi_add, zi_sub, zi_mul, zi_neg, zi_and1, zi_and7, zi_and15, zi_and31, zi_and255]) (by simp only [zi_add, zi_sub, zi_mul, zi_neg, zi_and1, zi_and7, zi_and15, zi_and31, zi_and255]) ?_
                refine gz_call rfl (by decide) rfl (by decide) (by decide) (gcal_of rfl rfl rfl (Nat.le_of_ble_eq_true rfl) (gJ.recv (G := gGG) sh32.1 tsrc rfl rfl)) (cl_Collected_byteAt _ sh32.1 src tsrc (((a + 3) + (2 * zq1)) + 1) (by omega) sz s36 (by omega) uq) (fun q40 _ wq40 => ?_)
                obtain ⟨pq40, oq40, hq40⟩ := q40
                obtain ⟨xq40, zq40, gq40, aq40, bq40, uq40_0⟩ := wq40
                refine ⟨_, gq40, ?_⟩
                show gz gPP gGG gcn _ _ 147 [some (.ref x), some (.int (zi a)), some (.int (zi n)), some (.int (zi zq1)), some (.int (zi jn7v0)), some (.int (zi ((a + 3) + (2 * zq1)))), none] [.int (zi zq40), .ref sc] hq40 _
                have sq40 : gSs rT 1027 ty [54009, 66002, 66003, 66004, 66005, 66011, 66012, 82009, 82010, 83009, 83010, 84009, 84010] h hq40 := gSs.tr sh32 xq40 (by decide)
                have s41 := (xq40.2.2.2.2.2 x 0 (by rw [tx]; decide)).trans s33
                have s42 := (xq40.2.2.2.2.2 x 1 (by rw [tx]; decide)).trans s34
                have s43 := (xq40.2.2.2.2.2 x 2 (by rw [tx]; decide)).trans s35
                have s44 := (xq40.2.2.2.2.2 src 1 (by rw [tsrc]; decide)).trans s36
                have s45 := (xq40.2.2.2.2.2 pic 7 (by rw [tpic]; decide)).trans s37
                have s46 := (xq40.2.2.2.2.2 sc 11 (by rw [tsc]; decide)).trans s38
                have s47 := (xq40.2.2.2.2.2 sc 12 (by rw [tsc]; decide)).trans s39
                have s48 := (xq40.2.2.2.2.2 sc 2 (by rw [tsc]; decide)).trans eh32
                refine gs_put rfl (by decide) rfl sq40 tsc rfl rfl rfl rfl (Or.inl rfl) (by decide) (by omega) (by omega) (fun h49 sh49 eh49 fh49 => ?_)
                have s50 := (fh49 x 0 (fun q => absurd q.2 (by decide))).trans s41
                have s51 := (fh49 x 1 (fun q => absurd q.2 (by decide))).trans s42
                have s52 := (fh49 x 2 (fun q => absurd q.2 (by decide))).trans s43
                have s53 := (fh49 src 1 (fun q => absurd q.2 (by decide))).trans s44
                have s54 := (fh49 pic 7 (fun q => absurd q.2 (by decide))).trans s45
                have s55 := (fh49 sc 11 (fun q => absurd q.2 (by decide))).trans s46
                have s56 := (fh49 sc 12 (fun q => absurd q.2 (by decide))).trans s47
                have s57 := (fh49 sc 2 (fun q => absurd q.2 (by decide))).trans s48
                refine gz_s 1 (pc' := 151) (L' := [some (.ref x), some (.int (zi a)), some (.int (zi n)), some (.int (zi zq1)), some (.int (zi jn7v0)), some (.int (zi ((a + 3) + (2 * zq1)))), none]) (S' := [.ref x]) rfl ?_
                refine gs_gtk rfl (by decide) rfl sh49.1 tx rfl rfl s52 ?_
                refine gz_s 1 (pc' := 155) (L' := [some (.ref x), some (.int (zi a)), some (.int (zi n)), some (.int (zi zq1)), some (.int (zi jn7v0)), some (.int (zi ((a + 3) + (2 * zq1)))), none]) (S' := [.ref x, .ref sc]) rfl ?_
                refine gs_gtk rfl (by decide) rfl sh49.1 tx rfl rfl s50 ?_
                refine gy_s 3 (pc' := 162) (L' := [some (.ref x), some (.int (zi a)), some (.int (zi n)), some (.int (zi zq1)), some (.int (zi jn7v0)), some (.int (zi ((a + 3) + (2 * zq1)))), none]) (S' := [.int ((zi ((a + 3) + (2 * zq1))) + (zi 2)), .ref src, .ref sc]) (L2 := [some (.ref x), some (.int (zi a)), some (.int (zi n)), some (.int (zi zq1)), some (.int (zi jn7v0)), some (.int (zi ((a + 3) + (2 * zq1)))), none]) (S2 := [.int (zi (((a + 3) + (2 * zq1)) + 2)), .ref src, .ref sc]) rfl (by simp only [zi_add, zi_sub, zi_mul, zi_neg, zi_and1, zi_and7, zi_and15, zi_and31, zi_and255]) (by simp only [zi_add, zi_sub, zi_mul, zi_neg, zi_and1, zi_and7, zi_and15, zi_and31, zi_and255]) ?_
                refine gz_call rfl (by decide) rfl (by decide) (by decide) (gcal_of rfl rfl rfl (Nat.le_of_ble_eq_true rfl) (gJ.recv (G := gGG) sh49.1 tsrc rfl rfl)) (cl_Collected_byteAt _ sh49.1 src tsrc (((a + 3) + (2 * zq1)) + 2) (by omega) sz s53 (by omega) uq) (fun q58 _ wq58 => ?_)
                obtain ⟨pq58, oq58, hq58⟩ := q58
                obtain ⟨xq58, zq58, gq58, aq58, bq58, uq58_0⟩ := wq58
                refine ⟨_, gq58, ?_⟩
                show gz gPP gGG gcn _ _ 165 [some (.ref x), some (.int (zi a)), some (.int (zi n)), some (.int (zi zq1)), some (.int (zi jn7v0)), some (.int (zi ((a + 3) + (2 * zq1)))), none] [.int (zi zq58), .ref sc] hq58 _
                have sq58 : gSs rT 1027 ty [54009, 66002, 66003, 66004, 66005, 66011, 66012, 82009, 82010, 83009, 83010, 84009, 84010] h hq58 := gSs.tr sh49 xq58 (by decide)
                have s59 := (xq58.2.2.2.2.2 x 0 (by rw [tx]; decide)).trans s50
                have s60 := (xq58.2.2.2.2.2 x 1 (by rw [tx]; decide)).trans s51
                have s61 := (xq58.2.2.2.2.2 x 2 (by rw [tx]; decide)).trans s52
                have s62 := (xq58.2.2.2.2.2 src 1 (by rw [tsrc]; decide)).trans s53
                have s63 := (xq58.2.2.2.2.2 pic 7 (by rw [tpic]; decide)).trans s54
                have s64 := (xq58.2.2.2.2.2 sc 11 (by rw [tsc]; decide)).trans s55
                have s65 := (xq58.2.2.2.2.2 sc 12 (by rw [tsc]; decide)).trans s56
                have s66 := (xq58.2.2.2.2.2 sc 2 (by rw [tsc]; decide)).trans s57
                have s67 := (xq58.2.2.2.2.2 sc 3 (by rw [tsc]; decide)).trans eh49
                refine gz_s 1 (pc' := 166) (L' := [some (.ref x), some (.int (zi a)), some (.int (zi n)), some (.int (zi zq1)), some (.int (zi jn7v0)), some (.int (zi ((a + 3) + (2 * zq1)))), none]) (S' := [.int (zi 4), .int (zi zq58), .ref sc]) rfl ?_
                refine gy_shc (n := 4) (v := 16) rfl (by decide) (by omega) (by decide) (by decide) rfl ?_
                refine gs_put rfl (by decide) rfl sq58 tsc rfl rfl rfl rfl (Or.inl rfl) (by decide) (by omega) (by omega) (fun h68 sh68 eh68 fh68 => ?_)
                have s69 := (fh68 x 0 (fun q => absurd q.2 (by decide))).trans s59
                have s70 := (fh68 x 1 (fun q => absurd q.2 (by decide))).trans s60
                have s71 := (fh68 x 2 (fun q => absurd q.2 (by decide))).trans s61
                have s72 := (fh68 src 1 (fun q => absurd q.2 (by decide))).trans s62
                have s73 := (fh68 pic 7 (fun q => absurd q.2 (by decide))).trans s63
                have s74 := (fh68 sc 11 (fun q => absurd q.2 (by decide))).trans s64
                have s75 := (fh68 sc 12 (fun q => absurd q.2 (by decide))).trans s65
                have s76 := (fh68 sc 2 (fun q => absurd q.2 (by decide))).trans s66
                have s77 := (fh68 sc 3 (fun q => absurd q.2 (by decide))).trans s67
                refine gz_s 1 (pc' := 171) (L' := [some (.ref x), some (.int (zi a)), some (.int (zi n)), some (.int (zi zq1)), some (.int (zi jn7v0)), some (.int (zi ((a + 3) + (2 * zq1)))), none]) (S' := [.ref x]) rfl ?_
                refine gs_gtk rfl (by decide) rfl sh68.1 tx rfl rfl s71 ?_
                refine gz_s 1 (pc' := 175) (L' := [some (.ref x), some (.int (zi a)), some (.int (zi n)), some (.int (zi zq1)), some (.int (zi jn7v0)), some (.int (zi ((a + 3) + (2 * zq1)))), none]) (S' := [.ref x, .ref sc]) rfl ?_
                refine gs_gtk rfl (by decide) rfl sh68.1 tx rfl rfl s69 ?_
                refine gy_s 3 (pc' := 182) (L' := [some (.ref x), some (.int (zi a)), some (.int (zi n)), some (.int (zi zq1)), some (.int (zi jn7v0)), some (.int (zi ((a + 3) + (2 * zq1)))), none]) (S' := [.int ((zi ((a + 3) + (2 * zq1))) + (zi 2)), .ref src, .ref sc]) (L2 := [some (.ref x), some (.int (zi a)), some (.int (zi n)), some (.int (zi zq1)), some (.int (zi jn7v0)), some (.int (zi ((a + 3) + (2 * zq1)))), none]) (S2 := [.int (zi (((a + 3) + (2 * zq1)) + 2)), .ref src, .ref sc]) rfl (by simp only [zi_add, zi_sub, zi_mul, zi_neg, zi_and1, zi_and7, zi_and15, zi_and31, zi_and255]) (by simp only [zi_add, zi_sub, zi_mul, zi_neg, zi_and1, zi_and7, zi_and15, zi_and31, zi_and255]) ?_
                refine gz_call rfl (by decide) rfl (by decide) (by decide) (gcal_of rfl rfl rfl (Nat.le_of_ble_eq_true rfl) (gJ.recv (G := gGG) sh68.1 tsrc rfl rfl)) (cl_Collected_byteAt _ sh68.1 src tsrc (((a + 3) + (2 * zq1)) + 2) (by omega) sz s72 (by omega) uq) (fun q78 _ wq78 => ?_)
                obtain ⟨pq78, oq78, hq78⟩ := q78
                obtain ⟨xq78, zq78, gq78, aq78, bq78, uq78_0⟩ := wq78
                refine ⟨_, gq78, ?_⟩
                show gz gPP gGG gcn _ _ 185 [some (.ref x), some (.int (zi a)), some (.int (zi n)), some (.int (zi zq1)), some (.int (zi jn7v0)), some (.int (zi ((a + 3) + (2 * zq1)))), none] [.int (zi zq78), .ref sc] hq78 _
                have sq78 : gSs rT 1027 ty [54009, 66002, 66003, 66004, 66005, 66011, 66012, 82009, 82010, 83009, 83010, 84009, 84010] h hq78 := gSs.tr sh68 xq78 (by decide)
                have s79 := (xq78.2.2.2.2.2 x 0 (by rw [tx]; decide)).trans s69
                have s80 := (xq78.2.2.2.2.2 x 1 (by rw [tx]; decide)).trans s70
                have s81 := (xq78.2.2.2.2.2 x 2 (by rw [tx]; decide)).trans s71
                have s82 := (xq78.2.2.2.2.2 src 1 (by rw [tsrc]; decide)).trans s72
                have s83 := (xq78.2.2.2.2.2 pic 7 (by rw [tpic]; decide)).trans s73
                have s84 := (xq78.2.2.2.2.2 sc 11 (by rw [tsc]; decide)).trans s74
                have s85 := (xq78.2.2.2.2.2 sc 12 (by rw [tsc]; decide)).trans s75
                have s86 := (xq78.2.2.2.2.2 sc 2 (by rw [tsc]; decide)).trans s76
                have s87 := (xq78.2.2.2.2.2 sc 3 (by rw [tsc]; decide)).trans s77
                have s88 := (xq78.2.2.2.2.2 sc 4 (by rw [tsc]; decide)).trans eh68
                refine gy_s 2 (pc' := 188) (L' := [some (.ref x), some (.int (zi a)), some (.int (zi n)), some (.int (zi zq1)), some (.int (zi jn7v0)), some (.int (zi ((a + 3) + (2 * zq1)))), none]) (S' := [.int ((zi zq78) &&& (zi 15)), .ref sc]) (L2 := [some (.ref x), some (.int (zi a)), some (.int (zi n)), some (.int (zi zq1)), some (.int (zi jn7v0)), some (.int (zi ((a + 3) + (2 * zq1)))), none]) (S2 := [.int (zi (zq78 % 16)), .ref sc]) rfl (by simp only [zi_add, zi_sub, zi_mul, zi_neg, zi_and1, zi_and7, zi_and15, zi_and31, zi_and255]) (by simp only [zi_add, zi_sub, zi_mul, zi_neg, zi_and1, zi_and7, zi_and15, zi_and31, zi_and255]) ?_
                refine gs_put rfl (by decide) rfl sq78 tsc rfl rfl rfl rfl (Or.inl rfl) (by decide) (by omega) (by omega) (fun h89 sh89 eh89 fh89 => ?_)
                have s90 := (fh89 x 0 (fun q => absurd q.2 (by decide))).trans s79
                have s91 := (fh89 x 1 (fun q => absurd q.2 (by decide))).trans s80
                have s92 := (fh89 x 2 (fun q => absurd q.2 (by decide))).trans s81
                have s93 := (fh89 src 1 (fun q => absurd q.2 (by decide))).trans s82
                have s94 := (fh89 pic 7 (fun q => absurd q.2 (by decide))).trans s83
                have s95 := (fh89 sc 11 (fun q => absurd q.2 (by decide))).trans s84
                have s96 := (fh89 sc 12 (fun q => absurd q.2 (by decide))).trans s85
                have s97 := (fh89 sc 2 (fun q => absurd q.2 (by decide))).trans s86
                have s98 := (fh89 sc 3 (fun q => absurd q.2 (by decide))).trans s87
                have s99 := (fh89 sc 4 (fun q => absurd q.2 (by decide))).trans s88
                refine gz_s 1 (pc' := 192) (L' := [some (.ref x), some (.int (zi a)), some (.int (zi n)), some (.int (zi zq1)), some (.int (zi jn7v0)), some (.int (zi ((a + 3) + (2 * zq1)))), none]) (S' := [.ref x]) rfl ?_
                refine gs_gtk rfl (by decide) rfl sh89.1 tx rfl rfl s92 ?_
                obtain ⟨c100, ec100, tc100⟩ := gJ.ref (k := 7) (G := gGG) sh89.1 tsc rfl rfl rfl
                have ee101 : pic = c100 := uq pic c100 (tpic.trans tc100.symm) (by rw [tpic]; decide) (by rw [tpic]; decide)
                subst ee101
                refine gz_call rfl (by decide) rfl (by decide) (by decide) (gcal_of rfl rfl rfl (Nat.le_of_ble_eq_true rfl) (gJ.recv (G := gGG) sh89.1 tsc rfl rfl)) (cl_ScanReader_isRangeGood _ sh89.1 sc tsc pic ec100 tpic zq24 s97 (by omega) zq40 s98 (by omega) (zq58 / 16) s99 (by omega) (zq78 % 16) eh89 (by omega) sgv s95 (by omega) uq) (fun q102 _ wq102 => ?_)
                obtain ⟨pq102, oq102, hq102⟩ := q102
                obtain ⟨xq102, zq102, gq102, aq102, bq102, uq102_0⟩ := wq102
                refine ⟨_, gq102, ?_⟩
                show gz gPP gGG gcn _ _ 198 [some (.ref x), some (.int (zi a)), some (.int (zi n)), some (.int (zi zq1)), some (.int (zi jn7v0)), some (.int (zi ((a + 3) + (2 * zq1)))), none] [.int (zi zq102)] hq102 _
                have sq102 : gSs rT 1027 ty [54009, 66002, 66003, 66004, 66005, 66011, 66012, 82009, 82010, 83009, 83010, 84009, 84010] h hq102 := gSs.tr sh89 xq102 (by decide)
                have s103 := (xq102.2.2.2.2.2 x 0 (by rw [tx]; decide)).trans s90
                have s104 := (xq102.2.2.2.2.2 x 1 (by rw [tx]; decide)).trans s91
                have s105 := (xq102.2.2.2.2.2 x 2 (by rw [tx]; decide)).trans s92
                have s106 := (xq102.2.2.2.2.2 src 1 (by rw [tsrc]; decide)).trans s93
                have s107 := (xq102.2.2.2.2.2 pic 7 (by rw [tpic]; decide)).trans s94
                have s108 := (xq102.2.2.2.2.2 sc 11 (by rw [tsc]; decide)).trans s95
                have s109 := (xq102.2.2.2.2.2 sc 12 (by rw [tsc]; decide)).trans s96
                have s110 := (xq102.2.2.2.2.2 sc 2 (by rw [tsc]; decide)).trans s97
                have s111 := (xq102.2.2.2.2.2 sc 3 (by rw [tsc]; decide)).trans s98
                have s112 := (xq102.2.2.2.2.2 sc 4 (by rw [tsc]; decide)).trans s99
                have s113 := (xq102.2.2.2.2.2 sc 5 (by rw [tsc]; decide)).trans eh89
                have s114 := (xq102.2.2.2.2.2 sc 7 (by rw [tsc]; decide)).trans ec100
                by_cases hc115 : ¬ (zq102 : Int) = 0
                · refine gy_ifT (pc' := 204) rfl (by decide) (by decide) (by omega) hc115 ?_
                  refine gz_s 1 (pc' := 205) (L' := [some (.ref x), some (.int (zi a)), some (.int (zi n)), some (.int (zi zq1)), some (.int (zi jn7v0)), some (.int (zi ((a + 3) + (2 * zq1)))), none]) (S' := [.ref x]) rfl ?_
                  refine gs_gtk rfl (by decide) rfl sq102.1 tx rfl rfl s104 ?_
                  refine gz_s 1 (pc' := 209) (L' := [some (.ref x), some (.int (zi a)), some (.int (zi n)), some (.int (zi zq1)), some (.int (zi jn7v0)), some (.int (zi ((a + 3) + (2 * zq1)))), none]) (S' := [.ref pic, .ref pic]) rfl ?_
                  refine gs_get rfl (by decide) rfl sq102.1 tpic rfl rfl rfl (fun z116 ez116 az116 bz116 => ?_)
                  refine gy_s 2 (pc' := 214) (L' := [some (.ref x), some (.int (zi a)), some (.int (zi n)), some (.int (zi zq1)), some (.int (zi jn7v0)), some (.int (zi ((a + 3) + (2 * zq1)))), none]) (S' := [.int ((zi z116) + (zi 1)), .ref pic]) (L2 := [some (.ref x), some (.int (zi a)), some (.int (zi n)), some (.int (zi zq1)), some (.int (zi jn7v0)), some (.int (zi ((a + 3) + (2 * zq1)))), none]) (S2 := [.int (zi (z116 + 1)), .ref pic]) rfl (by simp only [zi_add, zi_sub, zi_mul, zi_neg, zi_and1, zi_and7, zi_and15, zi_and31, zi_and255]) (by simp only [zi_add, zi_sub, zi_mul, zi_neg, zi_and1, zi_and7, zi_and15, zi_and31, zi_and255]) ?_
                  refine gy_any (fun z118 ez118 az118 bz118 => ?_)
                  refine gs_put rfl (by decide) rfl sq102 tpic rfl rfl rfl rfl (Or.inl rfl) (by decide) (by omega) (by omega) (fun h117 sh117 eh117 fh117 => ?_)
                  have s119 := (fh117 x 0 (fun q => absurd q.2 (by decide))).trans s103
                  have s120 := (fh117 x 1 (fun q => absurd q.2 (by decide))).trans s104
                  have s121 := (fh117 x 2 (fun q => absurd q.2 (by decide))).trans s105
                  have s122 := (fh117 src 1 (fun q => absurd q.2 (by decide))).trans s106
                  have s123 := (fh117 pic 7 (fun q => absurd q.2 (by decide))).trans s107
                  have s124 := (fh117 sc 11 (fun q => absurd q.2 (by decide))).trans s108
                  have s125 := (fh117 sc 12 (fun q => absurd q.2 (by decide))).trans s109
                  have s126 := (fh117 sc 2 (fun q => absurd q.2 (by decide))).trans s110
                  have s127 := (fh117 sc 3 (fun q => absurd q.2 (by decide))).trans s111
                  have s128 := (fh117 sc 4 (fun q => absurd q.2 (by decide))).trans s112
                  have s129 := (fh117 sc 5 (fun q => absurd q.2 (by decide))).trans s113
                  have s130 := (fh117 sc 7 (fun q => absurd q.2 (by decide))).trans s114
                  refine gz_s 1 (pc' := 219) (L' := [some (.ref x), some (.int (zi a)), some (.int (zi n)), some (.int (zi zq1)), some (.int (zi jn7v0)), some (.int (zi ((a + 3) + (2 * zq1)))), none]) (S' := [.int (zi (-3))]) rfl ?_
                  exact gz_end (I := .ireturn) (len := 1) rfl (Or.inl rfl) ⟨sh117, (-3), sgv, sbv, zq24, zq40, rfl, (by omega), (by omega), s124, (by omega), (by omega), s125, (by omega), (by omega), s126, (by omega), (by omega), s127, (by omega), (by omega), (by omega), (by omega), (by omega)⟩
                · refine gy_ifF rfl (by decide) (by decide) (by omega) hc115 ?_
                  refine gz_s 1 (pc' := 203) (L' := [some (.ref x), some (.int (zi a)), some (.int (zi n)), some (.int (zi zq1)), some (.int (zi jn7v0)), some (.int (zi ((a + 3) + (2 * zq1)))), none]) (S' := [.int (zi ((a + 3) + (2 * zq1)))]) rfl ?_
                  exact gz_end (I := .ireturn) (len := 1) rfl (Or.inl rfl) ⟨sq102, (a + 3) + (2 * zq1), sgv, sbv, zq24, zq40, rfl, (by omega), (by omega), s108, (by omega), (by omega), s109, (by omega), (by omega), s110, (by omega), (by omega), s111, (by omega), (by omega), (by omega), (by omega), (by omega)⟩
              · refine gy_icF rfl (by decide) (by decide) (by omega) (by omega) hc23 ?_
                refine gy_s 10 (pc' := 87) (L' := [some (.ref x), some (.int (zi a)), some (.int (zi n)), some (.int (zi zq1)), some (.int (zi jn7v0)), some (.int (zi i)), none]) (S' := [.int (((zi a) + (zi 3)) + ((zi 2) * (zi i))), .int (zi zq1), .int (zi i), .ref x]) (L2 := [some (.ref x), some (.int (zi a)), some (.int (zi n)), some (.int (zi zq1)), some (.int (zi jn7v0)), some (.int (zi i)), none]) (S2 := [.int (zi ((a + 3) + (2 * i))), .int (zi zq1), .int (zi i), .ref x]) rfl (by simp only [zi_add, zi_sub, zi_mul, zi_neg, zi_and1, zi_and7, zi_and15, zi_and31, zi_and255]) (by simp only [zi_add, zi_sub, zi_mul, zi_neg, zi_and1, zi_and7, zi_and15, zi_and31, zi_and255]) ?_
                refine gz_call rfl (by decide) rfl (by decide) (by decide) (gcal_of rfl rfl rfl (Nat.le_of_ble_eq_true rfl) (gJ.recv (G := gGG) sh22.1 tx rfl rfl)) (cl_Reader_readChoice _ sh22.1 x tx i (by omega) zq1 (by omega) ((a + 3) + (2 * i)) (by omega) src lp21k0 tsrc pic lp21k1 tpic sc lp21k2 tsc sz lp21k3 (by omega) cn lp21k4 (by omega) uq) (fun q131 _ wq131 => ?_)
                obtain ⟨pq131, oq131, hq131⟩ := q131
                obtain ⟨xq131, zq131, fq131_0, fq131_1, gq131, aq131, bq131, efq131_0, afq131_0, bfq131_0, efq131_1, afq131_1, bfq131_1, uq131_0, uq131_1⟩ := wq131
                refine ⟨_, gq131, ?_⟩
                show gz gPP gGG gcn _ _ 90 [some (.ref x), some (.int (zi a)), some (.int (zi n)), some (.int (zi zq1)), some (.int (zi jn7v0)), some (.int (zi i)), none] [.int (zi zq131)] hq131 _
                have sq131 : gSs rT 1027 ty [54009, 66002, 66003, 66004, 66005, 66011, 66012, 82009, 82010, 83009, 83010, 84009, 84010] h hq131 := gSs.tr sh22 xq131 (by decide)
                have s132 := (xq131.2.2.2.2.2 x 0 (by rw [tx]; decide)).trans lp21k0
                have s133 := (xq131.2.2.2.2.2 x 1 (by rw [tx]; decide)).trans lp21k1
                have s134 := (xq131.2.2.2.2.2 x 2 (by rw [tx]; decide)).trans lp21k2
                have s135 := (xq131.2.2.2.2.2 src 1 (by rw [tsrc]; decide)).trans lp21k3
                have s136 := (xq131.2.2.2.2.2 pic 7 (by rw [tpic]; decide)).trans lp21k4
                refine gz_s 3 (pc' := 95) (L' := [some (.ref x), some (.int (zi a)), some (.int (zi n)), some (.int (zi zq1)), some (.int (zi jn7v0)), some (.int (zi i)), some (.int (zi zq131))]) (S' := [.int (zi (-1)), .int (zi zq131)]) rfl ?_
                by_cases hc137 : (zq131 : Int) = (-1)
                · refine gy_icT (pc' := 101) rfl (by decide) (by decide) (by omega) (by omega) hc137 ?_
                  refine gy_s 2 (pc' := 69) (L' := [some (.ref x), some (.int (zi a)), some (.int (zi n)), some (.int (zi zq1)), some (.int (zi jn7v0)), some (.int ((zi i) + zi 1)), some (.int (zi zq131))]) (S' := []) (L2 := [some (.ref x), some (.int (zi a)), some (.int (zi n)), some (.int (zi zq1)), some (.int (zi jn7v0)), some (.int (zi (i + 1))), some (.int (zi zq131))]) (S2 := []) rfl (by simp only [zi_add, zi_sub, zi_mul, zi_neg, zi_and1, zi_and7, zi_and15, zi_and31, zi_and255]) (by simp only [zi_add, zi_sub, zi_mul, zi_neg, zi_and1, zi_and7, zi_and15, zi_and31, zi_and255]) ?_
                  exact gz_wk (ihlp21 hq131 (i + 1) fq131_0 fq131_1 (by omega) sq131 (by omega) (by omega) (by omega) (by omega) (by omega) s132 s133 s134 s135 s136 efq131_0 efq131_1) (gLw.s (gLw.s (gLw.s (gLw.s (gLw.s (gLw.s (gLw.n gLw.z)))))))
                · refine gy_icF rfl (by decide) (by decide) (by omega) (by omega) hc137 ?_
                  refine gz_s 1 (pc' := 100) (L' := [some (.ref x), some (.int (zi a)), some (.int (zi n)), some (.int (zi zq1)), some (.int (zi jn7v0)), some (.int (zi i)), some (.int (zi zq131))]) (S' := [.int (zi zq131)]) rfl ?_
                  obtain ⟨z138, ez138, az138, bz138⟩ := gJ.int (k := 2) (G := gGG) sq131.1 tsc rfl rfl rfl
                  obtain ⟨z139, ez139, az139, bz139⟩ := gJ.int (k := 3) (G := gGG) sq131.1 tsc rfl rfl rfl
                  exact gz_end (I := .ireturn) (len := 1) rfl (Or.inl rfl) ⟨sq131, zq131, fq131_0, fq131_1, z138, z139, rfl, (by omega), (by omega), efq131_0, (by omega), (by omega), efq131_1, (by omega), (by omega), ez138, (by omega), (by omega), ez139, (by omega), (by omega), (by omega), (by omega), (by omega)⟩
          exact gz_wk (lp21 _ hq1 0 z19 z20 (Nat.lt_succ_self _) sq1 (by omega) (by omega) (by omega) (by omega) (by omega) s2 s3 s4 s5 s6 ez19 ez20) (gLw.s (gLw.s (gLw.s (gLw.s (gLw.s (gLw.s (gLw.n gLw.z)))))))
        · refine gy_icF rfl (by decide) (by decide) (by omega) (by omega) hc18 ?_
          refine gz_s 1 (pc' := 56) (L' := [some (.ref x), some (.int (zi a)), some (.int (zi n)), some (.int (zi zq1)), some (.int (zi jn7v0)), none, none]) (S' := [.int (zi a)]) rfl ?_
          obtain ⟨z140, ez140, az140, bz140⟩ := gJ.int (k := 11) (G := gGG) sq1.1 tsc rfl rfl rfl
          obtain ⟨z141, ez141, az141, bz141⟩ := gJ.int (k := 12) (G := gGG) sq1.1 tsc rfl rfl rfl
          obtain ⟨z142, ez142, az142, bz142⟩ := gJ.int (k := 2) (G := gGG) sq1.1 tsc rfl rfl rfl
          obtain ⟨z143, ez143, az143, bz143⟩ := gJ.int (k := 3) (G := gGG) sq1.1 tsc rfl rfl rfl
          exact gz_end (I := .ireturn) (len := 1) rfl (Or.inl rfl) ⟨sq1, a, z140, z141, z142, z143, rfl, (by omega), (by omega), ez140, (by omega), (by omega), ez141, (by omega), (by omega), ez142, (by omega), (by omega), ez143, (by omega), (by omega), (by omega), (by omega), (by omega)⟩
  by_cases hc144 : (zq1 : Int) = 1
  · refine gy_icT (pc' := 27) rfl (by decide) (by decide) (by omega) (by omega) hc144 ?_
    refine gz_s 2 (pc' := 32) (L' := [some (.ref x), some (.int (zi a)), some (.int (zi n)), some (.int (zi zq1)), none, none, none]) (S' := [.int (zi 1)]) rfl ?_
    exact jn7 1 (by omega)
  · refine gy_icF rfl (by decide) (by decide) (by omega) (by omega) hc144 ?_
    refine gz_s 2 (pc' := 18) (L' := [some (.ref x), some (.int (zi a)), some (.int (zi n)), some (.int (zi zq1)), none, none, none]) (S' := [.ref x, .int (zi zq1)]) rfl ?_
    refine gs_gtk rfl (by decide) rfl sq1.1 tx rfl rfl s3 ?_
    refine gs_gtk rfl (by decide) rfl sq1.1 tpic rfl rfl s6 ?_
    by_cases hc145 : ¬ (zq1 : Int) = cn
    · refine gy_icT (pc' := 31) rfl (by decide) (by decide) (by omega) (by omega) hc145 ?_
      refine gz_s 1 (pc' := 32) (L' := [some (.ref x), some (.int (zi a)), some (.int (zi n)), some (.int (zi zq1)), none, none, none]) (S' := [.int (zi 0)]) rfl ?_
      exact jn7 0 (by omega)
    · refine gy_icF rfl (by decide) (by decide) (by omega) (by omega) hc145 ?_
      refine gz_s 2 (pc' := 32) (L' := [some (.ref x), some (.int (zi a)), some (.int (zi n)), some (.int (zi zq1)), none, none, none]) (S' := [.int (zi 1)]) rfl ?_
      exact jn7 1 (by omega)
set_option maxRecDepth 20000 in
set_option maxHeartbeats 4000000 in
theorem cl_Reader_placeBehindScan (d : Nat) {ty : Nat → Nat} {h : gH} (hJ : gJ rT 1027 ty h) (x : Nat) (tx : ty x = 65) (f : Int) (rf : 0 ≤ f ∧ f ≤ 2002) (src : Nat) (esrc : h.2.2.2.2 x 0 = .ref src) (tsrc : ty src = 51) (sz : Int) (esz : h.2.2.2.2 src 1 = .int (zi sz)) (rsz : 0 ≤ sz ∧ sz ≤ 2000) (uq : gUq ty) : gz gPP gGG gcn (d + 1) gt60 0 (gent [.ref x, .int (zi f)] 5) [] h (fun q _ => gSs rT 1027 ty [] h q.2.2 ∧ ∃ z : Int, gfin gt60 q.1 q.2.1 = some (some (.int (zi z))) ∧ 0 ≤ z ∧ z ≤ 2002 ∧ (z ≤ sz) ∧ (f ≤ z ∨ z = sz)) := by
  have hS : gSs rT 1027 ty [] h h := gSs.rf hJ
  refine gz_s 2 (pc' := 2) (L' := [some (.ref x), some (.int (zi f)), some (.int (zi f)), none, none]) (S' := []) rfl ?_
  have lp1 : ∀ (fu : Nat) (h2 : gH) (i : Int), (2003 - i).toNat < fu → gSs rT 1027 ty [] h h2 → (0 ≤ i ∧ i ≤ 2002) → (f ≤ i) → h2.2.2.2.2 x 0 = .ref src → h2.2.2.2.2 src 1 = .int (zi sz) → gz gPP gGG gcn (d + 1) gt60 2 [some (.ref x), some (.int (zi f)), some (.int (zi i)), none, none] [] h2 (fun q _ => gSs rT 1027 ty [] h q.2.2 ∧ ∃ z : Int, gfin gt60 q.1 q.2.1 = some (some (.int (zi z))) ∧ 0 ≤ z ∧ z ≤ 2002 ∧ (z ≤ sz) ∧ (f ≤ z ∨ z = sz)) := by
    intro fu
    induction fu with
    | zero => intro h2 i hm; exact absurd hm (Nat.not_lt_zero _)
    | succ fu ihlp1 =>
      intro h2 i lp1m sh2 lp1f0 lp1f1 lp1k0 lp1k1
      refine gy_s 4 (pc' := 6) (L' := [some (.ref x), some (.int (zi f)), some (.int (zi i)), none, none]) (S' := [.ref x, .int ((zi i) + (zi 1))]) (L2 := [some (.ref x), some (.int (zi f)), some (.int (zi i)), none, none]) (S2 := [.ref x, .int (zi (i + 1))]) rfl (by simp only [zi_add, zi_sub, zi_mul, zi_neg, zi_and1, zi_and7, zi_and15, zi_and31, zi_and255]) (by simp only [zi_add, zi_sub, zi_mul, zi_neg, zi_and1, zi_and7, zi_and15, zi_and31, zi_and255]) ?_
      refine gs_gtk rfl (by decide) rfl sh2.1 tx rfl rfl lp1k0 ?_
      refine gs_gtk rfl (by decide) rfl sh2.1 tsrc rfl rfl lp1k1 ?_
      by_cases hc3 : (sz : Int) ≤ i + 1
      · refine gy_icT (pc' := 71) rfl (by decide) (by decide) (by omega) (by omega) hc3 ?_
        refine gz_s 1 (pc' := 72) (L' := [some (.ref x), some (.int (zi f)), some (.int (zi i)), none, none]) (S' := [.ref x]) rfl ?_
        refine gs_gtk rfl (by decide) rfl sh2.1 tx rfl rfl lp1k0 ?_
        refine gs_gtk rfl (by decide) rfl sh2.1 tsrc rfl rfl lp1k1 ?_
        exact gz_end (I := .ireturn) (len := 1) rfl (Or.inl rfl) ⟨sh2, sz, rfl, (by omega), (by omega), (by omega), (by omega)⟩
      · refine gy_icF rfl (by decide) (by decide) (by omega) (by omega) hc3 ?_
        refine gz_s 1 (pc' := 16) (L' := [some (.ref x), some (.int (zi f)), some (.int (zi i)), none, none]) (S' := [.ref x]) rfl ?_
        refine gs_gtk rfl (by decide) rfl sh2.1 tx rfl rfl lp1k0 ?_
        refine gy_s 3 (pc' := 22) (L' := [some (.ref x), some (.int (zi f)), some (.int (zi i)), none, none]) (S' := [.int ((zi i) + (zi 1)), .ref src]) (L2 := [some (.ref x), some (.int (zi f)), some (.int (zi i)), none, none]) (S2 := [.int (zi (i + 1)), .ref src]) rfl (by simp only [zi_add, zi_sub, zi_mul, zi_neg, zi_and1, zi_and7, zi_and15, zi_and31, zi_and255]) (by simp only [zi_add, zi_sub, zi_mul, zi_neg, zi_and1, zi_and7, zi_and15, zi_and31, zi_and255]) ?_
        refine gz_call rfl (by decide) rfl (by decide) (by decide) (gcal_of rfl rfl rfl (Nat.le_of_ble_eq_true rfl) (gJ.recv (G := gGG) sh2.1 tsrc rfl rfl)) (cl_Collected_byteAt _ sh2.1 src tsrc (i + 1) (by omega) sz lp1k1 (by omega) uq) (fun q4 _ wq4 => ?_)
        obtain ⟨pq4, oq4, hq4⟩ := q4
        obtain ⟨xq4, zq4, gq4, aq4, bq4, uq4_0⟩ := wq4
        refine ⟨_, gq4, ?_⟩
        show gz gPP gGG gcn _ _ 25 [some (.ref x), some (.int (zi f)), some (.int (zi i)), none, none] [.int (zi zq4)] hq4 _
        have sq4 : gSs rT 1027 ty [] h hq4 := gSs.tr sh2 xq4 (by decide)
        have s5 := (xq4.2.2.2.2.2 x 0 (by rw [tx]; decide)).trans lp1k0
        have s6 := (xq4.2.2.2.2.2 src 1 (by rw [tsrc]; decide)).trans lp1k1
        refine gz_s 2 (pc' := 27) (L' := [some (.ref x), some (.int (zi f)), some (.int (zi i)), some (.int (zi zq4)), none]) (S' := [.int (zi zq4)]) rfl ?_
        by_cases hc7 : (zq4 : Int) = 0
        · refine gy_ifT (pc' := 37) rfl (by decide) (by decide) (by omega) hc7 ?_
          refine gz_s 4 (pc' := 45) (L' := [some (.ref x), some (.int (zi f)), some (.int (zi i)), some (.int (zi zq4)), some (.int (zi 1))]) (S' := [.ref x]) rfl ?_
          refine gs_gtk rfl (by decide) rfl sq4.1 tx rfl rfl s5 ?_
          refine gz_s 1 (pc' := 49) (L' := [some (.ref x), some (.int (zi f)), some (.int (zi i)), some (.int (zi zq4)), some (.int (zi 1))]) (S' := [.int (zi i), .ref src]) rfl ?_
          refine gz_call rfl (by decide) rfl (by decide) (by decide) (gcal_of rfl rfl rfl (Nat.le_of_ble_eq_true rfl) (gJ.recv (G := gGG) sq4.1 tsrc rfl rfl)) (cl_Collected_byteAt _ sq4.1 src tsrc i (by omega) sz s6 (by omega) uq) (fun q8 _ wq8 => ?_)
          obtain ⟨pq8, oq8, hq8⟩ := q8
          obtain ⟨xq8, zq8, gq8, aq8, bq8, uq8_0⟩ := wq8
          refine ⟨_, gq8, ?_⟩
          show gz gPP gGG gcn _ _ 52 [some (.ref x), some (.int (zi f)), some (.int (zi i)), some (.int (zi zq4)), some (.int (zi 1))] [.int (zi zq8)] hq8 _
          have sq8 : gSs rT 1027 ty [] h hq8 := gSs.tr sq4 xq8 (by decide)
          have s9 := (xq8.2.2.2.2.2 x 0 (by rw [tx]; decide)).trans s5
          have s10 := (xq8.2.2.2.2.2 src 1 (by rw [tsrc]; decide)).trans s6
          refine gz_s 1 (pc' := 55) (L' := [some (.ref x), some (.int (zi f)), some (.int (zi i)), some (.int (zi zq4)), some (.int (zi 1))]) (S' := [.int (zi 255), .int (zi zq8)]) rfl ?_
          by_cases hc11 : ¬ (zq8 : Int) = 255
          · refine gy_icT (pc' := 65) rfl (by decide) (by decide) (by omega) (by omega) hc11 ?_
            refine gy_s 2 (pc' := 2) (L' := [some (.ref x), some (.int (zi f)), some (.int ((zi i) + zi 1)), some (.int (zi zq4)), some (.int (zi 1))]) (S' := []) (L2 := [some (.ref x), some (.int (zi f)), some (.int (zi (i + 1))), some (.int (zi zq4)), some (.int (zi 1))]) (S2 := []) rfl (by simp only [zi_add, zi_sub, zi_mul, zi_neg, zi_and1, zi_and7, zi_and15, zi_and31, zi_and255]) (by simp only [zi_add, zi_sub, zi_mul, zi_neg, zi_and1, zi_and7, zi_and15, zi_and31, zi_and255]) ?_
            exact gz_wk (ihlp1 hq8 (i + 1) (by omega) sq8 (by omega) (by omega) s9 s10) (gLw.s (gLw.s (gLw.s (gLw.n (gLw.n gLw.z)))))
          · refine gy_icF rfl (by decide) (by decide) (by omega) (by omega) hc11 ?_
            refine gz_s 1 (pc' := 60) (L' := [some (.ref x), some (.int (zi f)), some (.int (zi i)), some (.int (zi zq4)), some (.int (zi 1))]) (S' := [.int (zi 1)]) rfl ?_
            refine gy_ifT (pc' := 65) rfl (by decide) (by decide) (by omega) (by first | (simp [zc]; done) | (simp only [zc]; omega)) ?_
            refine gy_s 2 (pc' := 2) (L' := [some (.ref x), some (.int (zi f)), some (.int ((zi i) + zi 1)), some (.int (zi zq4)), some (.int (zi 1))]) (S' := []) (L2 := [some (.ref x), some (.int (zi f)), some (.int (zi (i + 1))), some (.int (zi zq4)), some (.int (zi 1))]) (S2 := []) rfl (by simp only [zi_add, zi_sub, zi_mul, zi_neg, zi_and1, zi_and7, zi_and15, zi_and31, zi_and255]) (by simp only [zi_add, zi_sub, zi_mul, zi_neg, zi_and1, zi_and7, zi_and15, zi_and31, zi_and255]) ?_
            exact gz_wk (ihlp1 hq8 (i + 1) (by omega) sq8 (by omega) (by omega) s9 s10) (gLw.s (gLw.s (gLw.s (gLw.n (gLw.n gLw.z)))))
        · refine gy_ifF rfl (by decide) (by decide) (by omega) hc7 ?_
          refine gz_s 1 (pc' := 31) (L' := [some (.ref x), some (.int (zi f)), some (.int (zi i)), some (.int (zi zq4)), none]) (S' := [.int (zi zq4)]) rfl ?_
          refine gz_call rfl (by decide) rfl (by decide) (by decide) (gcal_of rfl rfl rfl (Nat.le_of_ble_eq_true rfl) rfl) (cl_Reader_isRestart _ sq4.1 zq4 (by omega) uq) (fun q12 _ wq12 => ?_)
          obtain ⟨pq12, oq12, hq12⟩ := q12
          obtain ⟨xq12, zq12, gq12, aq12, bq12, uq12_0⟩ := wq12
          refine ⟨_, gq12, ?_⟩
          show gz gPP gGG gcn _ _ 34 [some (.ref x), some (.int (zi f)), some (.int (zi i)), some (.int (zi zq4)), none] [.int (zi zq12)] hq12 _
          have sq12 : gSs rT 1027 ty [] h hq12 := gSs.tr sq4 xq12 (by decide)
          have s13 := (xq12.2.2.2.2.2 x 0 (by rw [tx]; decide)).trans s5
          have s14 := (xq12.2.2.2.2.2 src 1 (by rw [tsrc]; decide)).trans s6
          by_cases hc15 : (zq12 : Int) = 0
          · refine gy_ifT (pc' := 41) rfl (by decide) (by decide) (by omega) hc15 ?_
            refine gz_s 3 (pc' := 45) (L' := [some (.ref x), some (.int (zi f)), some (.int (zi i)), some (.int (zi zq4)), some (.int (zi 0))]) (S' := [.ref x]) rfl ?_
            refine gs_gtk rfl (by decide) rfl sq12.1 tx rfl rfl s13 ?_
            refine gz_s 1 (pc' := 49) (L' := [some (.ref x), some (.int (zi f)), some (.int (zi i)), some (.int (zi zq4)), some (.int (zi 0))]) (S' := [.int (zi i), .ref src]) rfl ?_
            refine gz_call rfl (by decide) rfl (by decide) (by decide) (gcal_of rfl rfl rfl (Nat.le_of_ble_eq_true rfl) (gJ.recv (G := gGG) sq12.1 tsrc rfl rfl)) (cl_Collected_byteAt _ sq12.1 src tsrc i (by omega) sz s14 (by omega) uq) (fun q16 _ wq16 => ?_)
            obtain ⟨pq16, oq16, hq16⟩ := q16
            obtain ⟨xq16, zq16, gq16, aq16, bq16, uq16_0⟩ := wq16
            refine ⟨_, gq16, ?_⟩
            show gz gPP gGG gcn _ _ 52 [some (.ref x), some (.int (zi f)), some (.int (zi i)), some (.int (zi zq4)), some (.int (zi 0))] [.int (zi zq16)] hq16 _
            have sq16 : gSs rT 1027 ty [] h hq16 := gSs.tr sq12 xq16 (by decide)
            have s17 := (xq16.2.2.2.2.2 x 0 (by rw [tx]; decide)).trans s13
            have s18 := (xq16.2.2.2.2.2 src 1 (by rw [tsrc]; decide)).trans s14
            refine gz_s 1 (pc' := 55) (L' := [some (.ref x), some (.int (zi f)), some (.int (zi i)), some (.int (zi zq4)), some (.int (zi 0))]) (S' := [.int (zi 255), .int (zi zq16)]) rfl ?_
            by_cases hc19 : ¬ (zq16 : Int) = 255
            · refine gy_icT (pc' := 65) rfl (by decide) (by decide) (by omega) (by omega) hc19 ?_
              refine gy_s 2 (pc' := 2) (L' := [some (.ref x), some (.int (zi f)), some (.int ((zi i) + zi 1)), some (.int (zi zq4)), some (.int (zi 0))]) (S' := []) (L2 := [some (.ref x), some (.int (zi f)), some (.int (zi (i + 1))), some (.int (zi zq4)), some (.int (zi 0))]) (S2 := []) rfl (by simp only [zi_add, zi_sub, zi_mul, zi_neg, zi_and1, zi_and7, zi_and15, zi_and31, zi_and255]) (by simp only [zi_add, zi_sub, zi_mul, zi_neg, zi_and1, zi_and7, zi_and15, zi_and31, zi_and255]) ?_
              exact gz_wk (ihlp1 hq16 (i + 1) (by omega) sq16 (by omega) (by omega) s17 s18) (gLw.s (gLw.s (gLw.s (gLw.n (gLw.n gLw.z)))))
            · refine gy_icF rfl (by decide) (by decide) (by omega) (by omega) hc19 ?_
              refine gz_s 1 (pc' := 60) (L' := [some (.ref x), some (.int (zi f)), some (.int (zi i)), some (.int (zi zq4)), some (.int (zi 0))]) (S' := [.int (zi 0)]) rfl ?_
              refine gy_ifF rfl (by decide) (by decide) (by omega) (by first | (simp [zc]; done) | (simp only [zc]; omega)) ?_
              refine gz_s 1 (pc' := 64) (L' := [some (.ref x), some (.int (zi f)), some (.int (zi i)), some (.int (zi zq4)), some (.int (zi 0))]) (S' := [.int (zi i)]) rfl ?_
              exact gz_end (I := .ireturn) (len := 1) rfl (Or.inl rfl) ⟨sq16, i, rfl, (by omega), (by omega), (by omega), (by omega)⟩
          · refine gy_ifF rfl (by decide) (by decide) (by omega) hc15 ?_
            refine gz_s 4 (pc' := 45) (L' := [some (.ref x), some (.int (zi f)), some (.int (zi i)), some (.int (zi zq4)), some (.int (zi 1))]) (S' := [.ref x]) rfl ?_
            refine gs_gtk rfl (by decide) rfl sq12.1 tx rfl rfl s13 ?_
            refine gz_s 1 (pc' := 49) (L' := [some (.ref x), some (.int (zi f)), some (.int (zi i)), some (.int (zi zq4)), some (.int (zi 1))]) (S' := [.int (zi i), .ref src]) rfl ?_
            refine gz_call rfl (by decide) rfl (by decide) (by decide) (gcal_of rfl rfl rfl (Nat.le_of_ble_eq_true rfl) (gJ.recv (G := gGG) sq12.1 tsrc rfl rfl)) (cl_Collected_byteAt _ sq12.1 src tsrc i (by omega) sz s14 (by omega) uq) (fun q20 _ wq20 => ?_)
            obtain ⟨pq20, oq20, hq20⟩ := q20
            obtain ⟨xq20, zq20, gq20, aq20, bq20, uq20_0⟩ := wq20
            refine ⟨_, gq20, ?_⟩
            show gz gPP gGG gcn _ _ 52 [some (.ref x), some (.int (zi f)), some (.int (zi i)), some (.int (zi zq4)), some (.int (zi 1))] [.int (zi zq20)] hq20 _
            have sq20 : gSs rT 1027 ty [] h hq20 := gSs.tr sq12 xq20 (by decide)
            have s21 := (xq20.2.2.2.2.2 x 0 (by rw [tx]; decide)).trans s13
            have s22 := (xq20.2.2.2.2.2 src 1 (by rw [tsrc]; decide)).trans s14
            refine gz_s 1 (pc' := 55) (L' := [some (.ref x), some (.int (zi f)), some (.int (zi i)), some (.int (zi zq4)), some (.int (zi 1))]) (S' := [.int (zi 255), .int (zi zq20)]) rfl ?_
            by_cases hc23 : ¬ (zq20 : Int) = 255
            · refine gy_icT (pc' := 65) rfl (by decide) (by decide) (by omega) (by omega) hc23 ?_
              refine gy_s 2 (pc' := 2) (L' := [some (.ref x), some (.int (zi f)), some (.int ((zi i) + zi 1)), some (.int (zi zq4)), some (.int (zi 1))]) (S' := []) (L2 := [some (.ref x), some (.int (zi f)), some (.int (zi (i + 1))), some (.int (zi zq4)), some (.int (zi 1))]) (S2 := []) rfl (by simp only [zi_add, zi_sub, zi_mul, zi_neg, zi_and1, zi_and7, zi_and15, zi_and31, zi_and255]) (by simp only [zi_add, zi_sub, zi_mul, zi_neg, zi_and1, zi_and7, zi_and15, zi_and31, zi_and255]) ?_
              exact gz_wk (ihlp1 hq20 (i + 1) (by omega) sq20 (by omega) (by omega) s21 s22) (gLw.s (gLw.s (gLw.s (gLw.n (gLw.n gLw.z)))))
            · refine gy_icF rfl (by decide) (by decide) (by omega) (by omega) hc23 ?_
              refine gz_s 1 (pc' := 60) (L' := [some (.ref x), some (.int (zi f)), some (.int (zi i)), some (.int (zi zq4)), some (.int (zi 1))]) (S' := [.int (zi 1)]) rfl ?_
              refine gy_ifT (pc' := 65) rfl (by decide) (by decide) (by omega) (by first | (simp [zc]; done) | (simp only [zc]; omega)) ?_
              refine gy_s 2 (pc' := 2) (L' := [some (.ref x), some (.int (zi f)), some (.int ((zi i) + zi 1)), some (.int (zi zq4)), some (.int (zi 1))]) (S' := []) (L2 := [some (.ref x), some (.int (zi f)), some (.int (zi (i + 1))), some (.int (zi zq4)), some (.int (zi 1))]) (S2 := []) rfl (by simp only [zi_add, zi_sub, zi_mul, zi_neg, zi_and1, zi_and7, zi_and15, zi_and31, zi_and255]) (by simp only [zi_add, zi_sub, zi_mul, zi_neg, zi_and1, zi_and7, zi_and15, zi_and31, zi_and255]) ?_
              exact gz_wk (ihlp1 hq20 (i + 1) (by omega) sq20 (by omega) (by omega) s21 s22) (gLw.s (gLw.s (gLw.s (gLw.n (gLw.n gLw.z)))))
  exact gz_wk (lp1 _ h f (Nat.lt_succ_self _) hS (by omega) (by omega) esrc esz) (gLw.s (gLw.s (gLw.s (gLw.n (gLw.n gLw.z)))))
