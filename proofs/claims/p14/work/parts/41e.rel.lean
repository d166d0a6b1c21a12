/-! ===== two ways to take what comes, side by side ===== -/
section EER
variable {T U : Type} {sy : Int → T → T} {pl : Int → Nat → T → T} {sz : Int → U → U} {pm : Int → Nat → U → U} {R : T → U → Prop}
theorem eeZ_rel (hs : ∀ (s : Int) (t : T) (u : U), 0 ≤ s → s < 256 → R t u → R (sy s t) (sz s u)) {t : T} {u : U} (h : R t u) : ∀ n, R (eeZ sy t n) (eeZ sz u n)
  | 0 => h
  | n + 1 => hs 240 _ _ (by omega) (by omega) (eeZ_rel hs h n)
theorem eeO_rel (hs : ∀ (s : Int) (t : T) (u : U), 0 ≤ s → s < 256 → R t u → R (sy s t) (sz s u)) (hp : ∀ (v : Int) (n : Nat) (t : T) (u : U), R t u → R (pl v n t) (pm v n u)) {lw : Int} {cf : Nat → Int} {b : Nat} {t : T} {u : U} (h : R t u) : ∀ j, (eeO sy pl lw cf b t j).1 = (eeO sz pm lw cf b u j).1 ∧ R (eeO sy pl lw cf b t j).2 (eeO sz pm lw cf b u j).2
  | 0 => ⟨rfl, h⟩
  | j + 1 => by
    obtain ⟨e, r⟩ := eeO_rel hs hp (lw := lw) (cf := cf) (b := b) h j
    show (eeO1 sy pl lw (cf (b + j)) (eeO sy pl lw cf b t j)).1 = (eeO1 sz pm lw (cf (b + j)) (eeO sz pm lw cf b u j)).1 ∧ R (eeO1 sy pl lw (cf (b + j)) (eeO sy pl lw cf b t j)).2 (eeO1 sz pm lw (cf (b + j)) (eeO sz pm lw cf b u j)).2
    unfold eeO1
    by_cases c : eeA (cf (b + j)) / 2 ^ lw.toNat = 0
    · rw [if_pos c, if_pos c]
      exact ⟨by show _ + 1 = _ + 1; rw [e], r⟩
    · rw [if_neg c, if_neg c]
      refine ⟨rfl, ?_⟩
      rw [e]
      have lb := eeL_b (eeA (cf (b + j)) / 2 ^ lw.toNat)
      exact hp _ _ _ _ (hs _ _ _ (by omega) (by omega) (eeZ_rel hs r _))
theorem eeOt_rel (hs : ∀ (s : Int) (t : T) (u : U), 0 ≤ s → s < 256 → R t u → R (sy s t) (sz s u)) (hp : ∀ (v : Int) (n : Nat) (t : T) (u : U), R t u → R (pl v n t) (pm v n u)) {lw : Int} {cf : Nat → Int} {b n : Nat} {t : T} {u : U} (h : R t u) : R (eeOt sy pl lw cf b n t) (eeOt sz pm lw cf b n u) := by
  obtain ⟨e, r⟩ := eeO_rel hs hp (lw := lw) (cf := cf) (b := b) h n
  unfold eeOt
  rw [e]
  split
  · exact hs _ _ _ (by omega) (by omega) r
  · exact r
theorem eeW_rel (hs : ∀ (s : Int) (t : T) (u : U), 0 ≤ s → s < 256 → R t u → R (sy s t) (sz s u)) (hp : ∀ (v : Int) (n : Nat) (t : T) (u : U), R t u → R (pl v n t) (pm v n u)) {r : Int × Int × Nat × T} {r2 : Int × Int × Nat × U} (e1 : r.1 = r2.1) (e2 : r.2.1 = r2.2.1) (e3 : r.2.2.1 = r2.2.2.1) (h : R r.2.2.2 r2.2.2.2) : ∀ n, (eeW sy pl r n).1 = (eeW sz pm r2 n).1 ∧ (eeW sy pl r n).2.1 = (eeW sz pm r2 n).2.1 ∧ (eeW sy pl r n).2.2.1 = (eeW sz pm r2 n).2.2.1 ∧ R (eeW sy pl r n).2.2.2 (eeW sz pm r2 n).2.2.2
  | 0 => ⟨e1, e2, e3, h⟩
  | n + 1 => by
    obtain ⟨a, b, c, d⟩ := eeW_rel hs hp e1 e2 e3 h n
    refine ⟨?_, b, rfl, ?_⟩
    · show (eeW sy pl r n).1 - 16 = (eeW sz pm r2 n).1 - 16
      rw [a]
    · show R (pl (eeW sy pl r n).2.1 (eeW sy pl r n).2.2.1 (sy 240 (eeW sy pl r n).2.2.2)) (pm (eeW sz pm r2 n).2.1 (eeW sz pm r2 n).2.2.1 (sz 240 (eeW sz pm r2 n).2.2.2))
      rw [b, c]
      exact hp _ _ _ _ (hs _ _ _ (by omega) (by omega) d)
theorem eeR2_rel (hs : ∀ (s : Int) (t : T) (u : U), 0 ≤ s → s < 256 → R t u → R (sy s t) (sz s u)) (hp : ∀ (v : Int) (n : Nat) (t : T) (u : U), R t u → R (pl v n t) (pm v n u)) {lw v : Int} {r : Int × Int × Nat × T} {r2 : Int × Int × Nat × U} (e1 : r.1 = r2.1) (e2 : r.2.1 = r2.2.1) (e3 : r.2.2.1 = r2.2.2.1) (h : R r.2.2.2 r2.2.2.2) : (eeR2 sy pl lw v r).1 = (eeR2 sz pm lw v r2).1 ∧ (eeR2 sy pl lw v r).2.1 = (eeR2 sz pm lw v r2).2.1 ∧ (eeR2 sy pl lw v r).2.2.1 = (eeR2 sz pm lw v r2).2.2.1 ∧ R (eeR2 sy pl lw v r).2.2.2 (eeR2 sz pm lw v r2).2.2.2 := by
  unfold eeR2
  rw [e1, e2, e3]
  split
  · exact ⟨rfl, rfl, rfl, h⟩
  · exact ⟨rfl, rfl, rfl, hp _ _ _ _ (hp _ _ _ _ (hs _ _ _ (by omega) (by omega) h))⟩
theorem eeR_rel (hs : ∀ (s : Int) (t : T) (u : U), 0 ≤ s → s < 256 → R t u → R (sy s t) (sz s u)) (hp : ∀ (v : Int) (n : Nat) (t : T) (u : U), R t u → R (pl v n t) (pm v n u)) {lw k0 ls l2 : Int} {cf : Nat → Int} {b : Nat} {t : T} {u : U} (hl : ∀ j : Nat, k0 + j ≤ ls ↔ k0 + j ≤ l2) (h : R t u) : ∀ j, (eeR sy pl lw cf b k0 ls t j).1 = (eeR sz pm lw cf b k0 l2 u j).1 ∧ (eeR sy pl lw cf b k0 ls t j).2.1 = (eeR sz pm lw cf b k0 l2 u j).2.1 ∧ (eeR sy pl lw cf b k0 ls t j).2.2.1 = (eeR sz pm lw cf b k0 l2 u j).2.2.1 ∧ R (eeR sy pl lw cf b k0 ls t j).2.2.2 (eeR sz pm lw cf b k0 l2 u j).2.2.2
  | 0 => ⟨rfl, rfl, rfl, h⟩
  | j + 1 => by
    obtain ⟨e1, e2, e3, r⟩ := eeR_rel hs hp (lw := lw) (cf := cf) (b := b) hl h j
    show (eeR1 sy pl lw (k0 + j) ls (cf (b + j)) (eeR sy pl lw cf b k0 ls t j)).1 = (eeR1 sz pm lw (k0 + j) l2 (cf (b + j)) (eeR sz pm lw cf b k0 l2 u j)).1 ∧ (eeR1 sy pl lw (k0 + j) ls (cf (b + j)) (eeR sy pl lw cf b k0 ls t j)).2.1 = (eeR1 sz pm lw (k0 + j) l2 (cf (b + j)) (eeR sz pm lw cf b k0 l2 u j)).2.1 ∧ (eeR1 sy pl lw (k0 + j) ls (cf (b + j)) (eeR sy pl lw cf b k0 ls t j)).2.2.1 = (eeR1 sz pm lw (k0 + j) l2 (cf (b + j)) (eeR sz pm lw cf b k0 l2 u j)).2.2.1 ∧ R (eeR1 sy pl lw (k0 + j) ls (cf (b + j)) (eeR sy pl lw cf b k0 ls t j)).2.2.2 (eeR1 sz pm lw (k0 + j) l2 (cf (b + j)) (eeR sz pm lw cf b k0 l2 u j)).2.2.2
    unfold eeR1
    by_cases c : eeA (cf (b + j)) / 2 ^ lw.toNat = 0
    · rw [if_pos c, if_pos c]
      exact ⟨by show _ + 1 = _ + 1; rw [e1], e2, e3, r⟩
    · rw [if_neg c, if_neg c]
      have ei : (if k0 + (j : Int) ≤ ls then ((eeR sy pl lw cf b k0 ls t j).1 / 16).toNat else 0) = (if k0 + (j : Int) ≤ l2 then ((eeR sz pm lw cf b k0 l2 u j).1 / 16).toNat else 0) := by
        rw [e1]
        by_cases c2 : k0 + (j : Int) ≤ ls
        · rw [if_pos c2, if_pos ((hl j).mp c2)]
        · rw [if_neg c2, if_neg (fun w => c2 ((hl j).mpr w))]
      rw [ei]
      obtain ⟨a1, a2, a3, a4⟩ := eeW_rel hs hp e1 e2 e3 r (if k0 + (j : Int) ≤ l2 then ((eeR sz pm lw cf b k0 l2 u j).1 / 16).toNat else 0)
      exact eeR2_rel hs hp a1 a2 a3 a4
theorem eeRt_rel (hs : ∀ (s : Int) (t : T) (u : U), 0 ≤ s → s < 256 → R t u → R (sy s t) (sz s u)) (hp : ∀ (v : Int) (n : Nat) (t : T) (u : U), R t u → R (pl v n t) (pm v n u)) {lw k0 ls l2 : Int} {cf : Nat → Int} {b n : Nat} {t : T} {u : U} (hl : ∀ j : Nat, k0 + j ≤ ls ↔ k0 + j ≤ l2) (h : R t u) : R (eeRt sy pl lw cf b k0 ls n t) (eeRt sz pm lw cf b k0 l2 n u) := by
  obtain ⟨e1, e2, e3, r⟩ := eeR_rel hs hp (lw := lw) (cf := cf) (b := b) hl h n
  unfold eeRt
  rw [e1, e2, e3]
  split
  · exact hp _ _ _ _ (hs _ _ _ (by omega) (by omega) r)
  · exact r
theorem eeFi_rel (hs : ∀ (s : Int) (t : T) (u : U), 0 ≤ s → s < 256 → R t u → R (sy s t) (sz s u)) (hp : ∀ (v : Int) (n : Nat) (t : T) (u : U), R t u → R (pl v n t) (pm v n u)) {lw hg v bf : Int} {t : T} {u : U} (h : R t u) : (eeFi sy pl lw hg v bf t).1 = (eeFi sz pm lw hg v bf u).1 ∧ R (eeFi sy pl lw hg v bf t).2 (eeFi sz pm lw hg v bf u).2 := by
  unfold eeFi
  split
  · exact ⟨rfl, hp _ _ _ _ h⟩
  · have lb := eeL_b (eeA (v / 2 ^ lw.toNat - bf))
    exact ⟨rfl, hp _ _ _ _ (hs _ _ _ (by omega) (by omega) h)⟩
end EER
/-! how much is counted -/
theorem ecS_sum {w : Nat → Int} {s : Int} {n : Nat} : gsf (ecS s w) n ≤ gsf w n + 1 := by
  unfold ecS
  by_cases c : s.toNat < n
  · rw [gsf_up c]
    omega
  · rw [gsf_cg (g := w) (fun j hj => gfu_ne (by omega))]
    omega
def ecR (n : Nat) (w0 : Nat → Int) (w : Nat → Int) (k : Int) : Prop := gsf w n ≤ gsf w0 n + k ∧ ((∀ x, 0 ≤ w0 x) → ∀ x, 0 ≤ w x)
theorem ecR.s {n : Nat} {w0 w : Nat → Int} {k s : Int} (h : ecR n w0 w k) : ecR n w0 (ecS s w) (k + 1) := by
  refine ⟨?_, fun h0 x => ?_⟩
  · have := ecS_sum (w := w) (s := s) (n := n)
    have := h.1
    omega
  · have h2 := h.2 h0
    unfold ecS gfu
    split
    · have := h2 s.toNat
      omega
    · exact h2 x
theorem ecR.z {n : Nat} {w0 w : Nat → Int} {k : Int} (h : ecR n w0 w k) : ∀ m : Nat, ecR n w0 (eeZ ecS w m) (k + m)
  | 0 => by rw [(by omega : k + ((0 : Nat) : Int) = k)]; exact h
  | m + 1 => by
    have := (ecR.z h m).s (s := 240)
    rw [(by omega : k + (m : Int) + 1 = k + ((m + 1 : Nat) : Int))] at this
    exact this
theorem ecR.mono {n : Nat} {w0 w : Nat → Int} {k k2 : Int} (h : ecR n w0 w k) (hk : k ≤ k2) : ecR n w0 w k2 := ⟨by have := h.1; omega, h.2⟩
theorem eeO_cnt {n : Nat} {w : Nat → Int} {lw : Int} {cf : Nat → Int} {b : Nat} : ∀ j : Nat, ∃ k : Int, ecR n w (eeO ecS ecP lw cf b w j).2 k ∧ 0 ≤ k ∧ 0 ≤ (eeO ecS ecP lw cf b w j).1 ∧ 16 * k + (eeO ecS ecP lw cf b w j).1 ≤ 16 * j
  | 0 => ⟨0, ⟨by show gsf w n ≤ gsf w n + 0; omega, fun h => h⟩, by omega, by show (0 : Int) ≤ 0; omega, by show 16 * (0 : Int) + 0 ≤ 16 * ((0 : Nat) : Int); omega⟩
  | j + 1 => by
    obtain ⟨k, r, hk, h0, h1⟩ := eeO_cnt (n := n) (w := w) (lw := lw) (cf := cf) (b := b) j
    have e : eeO ecS ecP lw cf b w (j + 1) = eeO1 ecS ecP lw (cf (b + j)) (eeO ecS ecP lw cf b w j) := rfl
    rw [e]
    unfold eeO1
    split
    · exact ⟨k, r, hk, by show 0 ≤ _ + 1; omega, by show 16 * k + (_ + 1) ≤ _; omega⟩
    · refine ⟨k + ((eeO ecS ecP lw cf b w j).1 / 16).toNat + 1, (r.z _).s, by omega, by show (0 : Int) ≤ 0; omega, ?_⟩
      show 16 * (k + ((eeO ecS ecP lw cf b w j).1 / 16).toNat + 1) + 0 ≤ _
      omega
theorem eeOt_cnt {n : Nat} {w : Nat → Int} {lw : Int} {cf : Nat → Int} {b m : Nat} : ecR n w (eeOt ecS ecP lw cf b m w) (m + 1) := by
  obtain ⟨k, r, hk, h0, h1⟩ := eeO_cnt (n := n) (w := w) (lw := lw) (cf := cf) (b := b) m
  unfold eeOt
  split
  · exact r.s.mono (by omega)
  · exact r.mono (by omega)
theorem eeW_cnt {n : Nat} {w0 : Nat → Int} {k : Int} {r : Int × Int × Nat × (Nat → Int)} (h : ecR n w0 r.2.2.2 k) : ∀ m : Nat, ecR n w0 (eeW ecS ecP r m).2.2.2 (k + m) ∧ (eeW ecS ecP r m).1 = r.1 - 16 * m
  | 0 => ⟨h.mono (by omega), by show r.1 = _; omega⟩
  | m + 1 => by
    obtain ⟨a, b⟩ := eeW_cnt h m
    refine ⟨a.s.mono (by omega), ?_⟩
    show (eeW ecS ecP r m).1 - 16 = _
    omega
theorem eeR_cnt {n : Nat} {w : Nat → Int} {lw k0 ls : Int} {cf : Nat → Int} {b : Nat} : ∀ j : Nat, ∃ k : Int, ecR n w (eeR ecS ecP lw cf b k0 ls w j).2.2.2 k ∧ 0 ≤ k ∧ 0 ≤ (eeR ecS ecP lw cf b k0 ls w j).1 ∧ 16 * k + (eeR ecS ecP lw cf b k0 ls w j).1 ≤ 16 * j
  | 0 => ⟨0, ⟨by show gsf w n ≤ gsf w n + 0; omega, fun h => h⟩, by omega, by show (0 : Int) ≤ 0; omega, by show 16 * (0 : Int) + 0 ≤ 16 * ((0 : Nat) : Int); omega⟩
  | j + 1 => by
    obtain ⟨k, r, hk, h0, h1⟩ := eeR_cnt (n := n) (w := w) (lw := lw) (k0 := k0) (ls := ls) (cf := cf) (b := b) j
    have e : eeR ecS ecP lw cf b k0 ls w (j + 1) = eeR1 ecS ecP lw (k0 + j) ls (cf (b + j)) (eeR ecS ecP lw cf b k0 ls w j) := rfl
    rw [e]
    generalize eeR ecS ecP lw cf b k0 ls w j = q at r h0 h1
    unfold eeR1
    split
    · exact ⟨k, r, hk, by show 0 ≤ _ + 1; omega, by show 16 * k + (_ + 1) ≤ _; omega⟩
    · obtain ⟨a, c⟩ := eeW_cnt r (if k0 + (j : Int) ≤ ls then (q.1 / 16).toNat else 0)
      have hm : 16 * (((if k0 + (j : Int) ≤ ls then (q.1 / 16).toNat else 0) : Nat) : Int) ≤ q.1 := by split <;> omega
      generalize (if k0 + (j : Int) ≤ ls then (q.1 / 16).toNat else 0) = m at a c hm
      unfold eeR2
      split
      · refine ⟨k + m, a, by omega, ?_, ?_⟩
        · show 0 ≤ (eeW ecS ecP q m).1
          omega
        · show 16 * (k + m) + (eeW ecS ecP q m).1 ≤ _
          omega
      · refine ⟨k + m + 1, a.s, by omega, by show (0 : Int) ≤ 0; omega, ?_⟩
        show 16 * (k + m + 1) + 0 ≤ _
        omega
theorem eeRt_cnt {n : Nat} {w : Nat → Int} {lw k0 ls : Int} {cf : Nat → Int} {b m : Nat} : ecR n w (eeRt ecS ecP lw cf b k0 ls m w) (m + 1) := by
  obtain ⟨k, r, hk, h0, h1⟩ := eeR_cnt (n := n) (w := w) (lw := lw) (k0 := k0) (ls := ls) (cf := cf) (b := b) m
  unfold eeRt
  split
  · exact r.s.mono (by omega)
  · exact r.mono (by omega)
theorem eeFi_cnt {n : Nat} {w : Nat → Int} {lw hg v bf : Int} : ecR n w (eeFi ecS ecP lw hg v bf w).2 1 := by
  unfold eeFi
  have h : ecR n w w 0 := ⟨by omega, fun h => h⟩
  split
  · exact h.mono (by omega)
  · exact h.s
theorem ecR.tr {n : Nat} {w0 w1 w2 : Nat → Int} {k j : Int} (a : ecR n w0 w1 k) (b : ecR n w1 w2 j) : ecR n w0 w2 (k + j) := ⟨by have := a.1; have := b.1; omega, fun h => b.2 (a.2 h)⟩
theorem ecK_cnt {n : Nat} {iv fr tt hg lw : Int} {cf : Nat → Int} {w0 w1 : Nat → Int} (hf : 0 ≤ fr) (ht : tt ≤ 63) : ∀ b : Nat, ecR n w0 (ecK iv fr tt hg lw cf w0 w1 b).2.1 b ∧ ecR n w1 (ecK iv fr tt hg lw cf w0 w1 b).2.2 (65 * b)
  | 0 => ⟨⟨by show gsf w0 n ≤ gsf w0 n + ((0 : Nat) : Int); omega, fun h => h⟩, ⟨by show gsf w1 n ≤ gsf w1 n + 65 * ((0 : Nat) : Int); omega, fun h => h⟩⟩
  | b + 1 => by
    obtain ⟨x, y⟩ := ecK_cnt (n := n) (iv := iv) (fr := fr) (tt := tt) (hg := hg) (lw := lw) (cf := cf) (w0 := w0) (w1 := w1) hf ht b
    refine ⟨?_, ?_⟩
    · show ecR n w0 (if fr = 0 then eeFi ecS ecP lw hg (cf (64 * b)) _ (ecK iv fr tt hg lw cf w0 w1 b).2.1 else (_, (ecK iv fr tt hg lw cf w0 w1 b).2.1)).2 _
      split
      · exact (x.tr eeFi_cnt).mono (by omega)
      · exact x.mono (by omega)
    · show ecR n w1 (if 0 < tt ∧ 0 < hg then _ else if 0 < tt then _ else (ecK iv fr tt hg lw cf w0 w1 b).2.2) _
      split
      · exact (y.tr eeRt_cnt).mono (by omega)
      · split
        · exact (y.tr eeOt_cnt).mono (by split <;> omega)
        · exact y.mono (by omega)
/-! how often symbols come at most -/
def ewB (w : Nat → Int) (M : Int) : Prop := (∀ j9 : Nat, 0 ≤ w j9) ∧ gsf w 257 ≤ M
theorem ewB.at {w : Nat → Int} {M : Int} {j : Nat} (h : ewB w M) (hj : j < 257) : 0 ≤ w j ∧ w j ≤ M := by
  have := gsf_le2 (f := w) (n := 257) (i := j) (fun x _ => h.1 x) hj
  have := h.2
  exact ⟨h.1 j, by omega⟩
theorem ewB.mono {w : Nat → Int} {M N : Int} (h : ewB w M) (hm : M ≤ N) : ewB w N := ⟨h.1, by have := h.2; omega⟩
theorem ewB.of {w v : Nat → Int} {M k N : Int} (h : ewB w M) (r : ecR 257 w v k) (hm : M + k ≤ N) : ewB v N := ⟨r.2 h.1, by have := h.2; have := r.1; omega⟩
theorem ewB.s {w : Nat → Int} {M s : Int} (h : ewB w M) : ewB (ecS s w) (M + 1) := h.of (k := 1) (ecR.s (k := 0) ⟨by omega, fun x => x⟩) (by omega)
theorem ewB.z {w : Nat → Int} {M : Int} (h : ewB w M) (n : Nat) : ewB (eeZ ecS w n) (M + n) := h.of (k := n) ((ecR.z (k := 0) ⟨by omega, fun x => x⟩ n).mono (by omega)) (by omega)
theorem ewB.O {w : Nat → Int} {M lw : Int} {cf : Nat → Int} {b : Nat} (h : ewB w M) (j : Nat) : ewB (eeO ecS ecP lw cf b w j).2 (M + j) ∧ 0 ≤ (eeO ecS ecP lw cf b w j).1 ∧ (eeO ecS ecP lw cf b w j).1 ≤ 16 * j := by
  obtain ⟨k, r, hk, h0, h1⟩ := eeO_cnt (n := 257) (w := w) (lw := lw) (cf := cf) (b := b) j
  have := r.1
  have n0 : ∀ x : Nat, 0 ≤ (eeO ecS ecP lw cf b w j).2 x := r.2 h.1
  exact ⟨h.of r (by omega), h0, by omega⟩
def e1w : Nat → Int := fun j => if j = 256 then 1 else 0
theorem e1w_B : ewB e1w 1 := ⟨fun j => by unfold e1w; split <;> omega, by decide +kernel⟩
theorem ewB.R {w : Nat → Int} {M lw k0 ls : Int} {cf : Nat → Int} {b : Nat} (h : ewB w M) (j : Nat) : ewB (eeR ecS ecP lw cf b k0 ls w j).2.2.2 (M + j) := by
  obtain ⟨k, r, hk, h0, h1⟩ := eeR_cnt (n := 257) (w := w) (lw := lw) (k0 := k0) (ls := ls) (cf := cf) (b := b) j
  exact h.of r (by omega)
theorem ewB.W {r : Int × Int × Nat × (Nat → Int)} {M : Int} (h : ewB r.2.2.2 M) (m : Nat) : ewB (eeW ecS ecP r m).2.2.2 (M + m) := h.of (k := m) ((eeW_cnt (r := r) (k := 0) ⟨by omega, fun x => x⟩ m).1.mono (by omega)) (by omega)
