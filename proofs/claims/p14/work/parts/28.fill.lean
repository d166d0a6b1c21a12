/-! ===== Arrays.fill ===== -/
/-- the first i places of a are v -/
def gfl (h : gH) (a : Nat) (v : Value) (i : Nat) : gH := (h.1, h.2.1, h.2.2.1, h.2.2.2.1, fun b j => if b = a then (if j < i then v else h.2.2.2.2 b j) else h.2.2.2.2 b j)
theorem gfl_0 (h : gH) (a : Nat) (v : Value) : gfl h a v 0 = h := by
  obtain ⟨h1, h2, h3, h4, h5⟩ := h
  unfold gfl
  simp
theorem gfl_s (h : gH) (a : Nat) (v : Value) (i : Nat) : gput (gfl h a v i) a i v = gfl h a v (i + 1) := by
  have e : (gput (gfl h a v i) a i v).2.2.2.2 = (gfl h a v (i + 1)).2.2.2.2 := by
    funext b j
    show (if b = a then (if j = i then v else (if b = a then (if j < i then v else h.2.2.2.2 b j) else h.2.2.2.2 b j)) else (if b = a then (if j < i then v else h.2.2.2.2 b j) else h.2.2.2.2 b j)) = (if b = a then (if j < i + 1 then v else h.2.2.2.2 b j) else h.2.2.2.2 b j)
    by_cases hb : b = a
    · rw [if_pos hb, if_pos hb, if_pos hb]
      by_cases hj : j = i
      · rw [if_pos hj, if_pos (by omega)]
      · rw [if_neg hj]
        by_cases hl : j < i
        · rw [if_pos hl, if_pos (by omega)]
        · rw [if_neg hl, if_neg (by omega)]
    · rw [if_neg hb, if_neg hb, if_neg hb]
  show (h.1, h.2.1, h.2.2.1, h.2.2.2.1, (gput (gfl h a v i) a i v).2.2.2.2) = gfl h a v (i + 1)
  rw [e]
  rfl
set_option maxRecDepth 20000 in
theorem tr_fill (d a n : Nat) (x : Int32) (h : gH) (h0 : 1027 ≤ a) (h1 : a < h.1) (hk : h.2.2.1 a = some (.inl 0)) (hn : h.2.2.2.1 a = n) (hn9 : n ≤ 1000000) : gz gPP gGG gcn d gt5 0 (gent [.ref a, .int x] 4) [] h (fun q _ => q = (20, [], gfl h a (.int x) n)) := by
  refine gz_s 3 (pc' := 3) (L' := [some (.ref a), some (.int x), some (.int (zi 0)), none]) (S' := [.ref a]) rfl ?_
  refine gz_len (u := 0) (ty := .int) rfl (by decide) h1 hk rfl ?_
  rw [hn, zi_nI]
  refine gz_s 1 (pc' := 5) (L' := [some (.ref a), some (.int x), some (.int (zi 0)), some (.int (zi n))]) (S' := []) rfl ?_
  have loop : ∀ k i : Nat, i + k = n → gz gPP gGG gcn d gt5 5 [some (.ref a), some (.int x), some (.int (zi i)), some (.int (zi n))] [] (gfl h a (.int x) i) (fun q _ => q = (20, [], gfl h a (.int x) n)) := by
    intro k
    induction k with
    | zero =>
      intro i hi
      have hi : i = n := by omega
      subst hi
      refine gz_s 2 (pc' := 7) (L' := [some (.ref a), some (.int x), some (.int (zi i)), some (.int (zi i))]) (S' := [.int (zi i), .int (zi i)]) rfl ?_
      refine gy_icT (pc' := 20) rfl (by decide) (by decide) (by omega) (by omega) (Int.le_refl _) ?_
      exact gz_end (I := .return_) (len := 1) rfl (Or.inl rfl) rfl
    | succ k ih =>
      intro i hi
      refine gz_s 2 (pc' := 7) (L' := [some (.ref a), some (.int x), some (.int (zi i)), some (.int (zi n))]) (S' := [.int (zi n), .int (zi i)]) rfl ?_
      refine gy_icF rfl (by decide) (by decide) (by omega) (by omega) (by simp only [zc]; omega) ?_
      refine gz_s 3 (pc' := 13) (L' := [some (.ref a), some (.int x), some (.int (zi i)), some (.int (zi n))]) (S' := [.int x, .int (zi i), .ref a]) rfl ?_
      refine gy_iast (u := 0) rfl (by decide) h0 h1 hk rfl (by show h.2.2.2.1 a ≤ _; omega) (by omega) (by show (i : Int) < (h.2.2.2.1 a : Nat); omega) ?_
      rw [Int.toNat_natCast, gfl_s]
      refine gy_s 2 (pc' := 5) (L' := [some (.ref a), some (.int x), some (.int (zi i + zi 1)), some (.int (zi n))]) (S' := []) (L2 := [some (.ref a), some (.int x), some (.int (zi ((i + 1 : Nat) : Int))), some (.int (zi n))]) (S2 := []) rfl (by rw [zi_add]; rfl) rfl ?_
      exact ih (i + 1) (by omega)
  have := loop n 0 (by omega)
  rw [gfl_0] at this
  exact this
