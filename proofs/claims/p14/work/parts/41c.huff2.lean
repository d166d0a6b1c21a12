/-! ===== how long codes can be ===== -/
def efb : Nat → Int
  | 0 => 0
  | 1 => 1
  | n + 2 => efb n + efb (n + 1)
theorem efb_2 (n : Nat) : efb (n + 2) = efb n + efb (n + 1) := rfl
theorem efb_mono : ∀ n, 0 ≤ efb n ∧ efb n ≤ efb (n + 1)
  | 0 => ⟨by decide, by decide⟩
  | 1 => ⟨by decide, by decide⟩
  | n + 2 => by
    have h1 := efb_mono n
    have h2 := efb_mono (n + 1)
    rw [efb_2 (n + 1), efb_2 n]
    rw [efb_2 n] at h2
    omega
theorem efb_le {m : Nat} : ∀ {n : Nat}, m ≤ n → efb m ≤ efb n
  | 0, h => by
    have : m = 0 := by omega
    subst this
    exact Int.le_refl _
  | n + 1, h => by
    by_cases c : m = n + 1
    · subst c
      exact Int.le_refl _
    · exact Int.le_trans (efb_le (by omega)) (efb_mono n).2
def ehI (w0 : Nat → Int) (s : ehT) : Prop :=
  (∀ x, x < 257 → 0 ≤ s.1 x) ∧
  (∀ x, x < 257 → 0 < w0 x → 0 ≤ s.2.1 x ∧ s.2.1 x < 257 ∧ 0 < s.1 (s.2.1 x).toNat ∧ 0 ≤ s.2.2 x) ∧
  (∀ x, x < 257 → ¬ 0 < w0 x → s.1 x = 0 ∧ s.2.1 x = (x : Int) ∧ s.2.2 x = 0) ∧
  (∀ x, x < 257 → 0 < w0 x → efb ((s.2.2 x).toNat + 2) ≤ s.1 (s.2.1 x).toNat ∧ ∀ y : Nat, y < 257 → 0 < s.1 y → ¬ (y : Int) = s.2.1 x → efb ((s.2.2 x).toNat + 1) ≤ s.1 y) ∧
  gsf s.1 257 = gsf w0 257
theorem ehI.zero {w : Nat → Int} (h : ∀ x, x < 257 → 0 ≤ w x) : ehI w (ehR w 0) := by
  refine ⟨h, ?_, ?_, ?_, rfl⟩
  · intro x hx h0
    have e : ((x : Int)).toNat = x := by omega
    refine ⟨?_, ?_, ?_, ?_⟩
    · show (0 : Int) ≤ (x : Int); omega
    · show (x : Int) < 257; omega
    · show 0 < w ((x : Int)).toNat
      rw [e]
      exact h0
    · show (0 : Int) ≤ 0; omega
  · intro x hx h0
    refine ⟨?_, rfl, rfl⟩
    have := h x hx
    show w x = 0
    omega
  · intro x hx h0
    have e : ((x : Int)).toNat = x := by omega
    refine ⟨?_, ?_⟩
    · show (1 : Int) ≤ w ((x : Int)).toNat
      rw [e]
      omega
    · intro y hy h1 _
      show (1 : Int) ≤ w y
      have : 0 < w y := h1
      omega
theorem ehI.join {w0 : Nat → Int} {s : ehT} {a b : Nat} (i : ehI w0 s) (o : ehO s a b) : ehI w0 (ehJ a b s) := by
  have o2 := o
  obtain ⟨ha, hb, hab, wa, wb, wab, wj⟩ := o
  obtain ⟨i1, i2, i3, i4, i5⟩ := i
  have hc : ehm a b < 257 := by unfold ehm; split <;> omega
  have hcab : ehm a b = a ∨ ehm a b = b := by unfold ehm; split <;> omega
  have ec : (((ehm a b : Nat) : Int)).toNat = ehm a b := by omega
  have wc : (ehJ a b s).1 (ehm a b) = s.1 a + s.1 b := by rw [ehJ_w, if_pos rfl]
  have wo : ∀ y, y < 257 → 0 < (ehJ a b s).1 y → y ≠ ehm a b → y ≠ a ∧ y ≠ b ∧ (ehJ a b s).1 y = s.1 y := by
    intro y hy h0 hn
    rw [ehJ_w, if_neg hn] at h0
    by_cases c : y = a ∨ y = b
    · rw [if_pos c] at h0
      omega
    · refine ⟨fun e => c (Or.inl e), fun e => c (Or.inr e), ?_⟩
      rw [ehJ_w, if_neg hn, if_neg c]
  refine ⟨?_, ?_, ?_, ?_, (sum_join o2).trans i5⟩
  · intro x hx
    rw [ehJ_w]
    have := i1 x hx
    split
    · omega
    · split <;> omega
  · intro x hx h0
    obtain ⟨g0, g1, g2, g3⟩ := i2 x hx h0
    rw [ehJ_g, ehJ_l]
    by_cases c : s.2.1 x = a ∨ s.2.1 x = b
    · rw [if_pos c, if_pos c, ec, wc]
      refine ⟨by omega, by omega, by omega, by omega⟩
    · rw [if_neg c, if_neg c]
      refine ⟨g0, g1, ?_, g3⟩
      rw [ehJ_w, if_neg (by omega), if_neg (by omega)]
      exact g2
  · intro x hx h0
    obtain ⟨g0, g1, g2⟩ := i3 x hx h0
    have na : x ≠ a := fun e => by rw [e] at g0; omega
    have nb : x ≠ b := fun e => by rw [e] at g0; omega
    rw [ehJ_g, ehJ_l, ehJ_w, if_neg (by omega), if_neg (by omega), if_neg (by omega), if_neg (by omega)]
    exact ⟨g0, g1, g2⟩
  · intro x hx h0
    obtain ⟨g0, g1, g2, g3⟩ := i2 x hx h0
    obtain ⟨f1, f2⟩ := i4 x hx h0
    rw [ehJ_g, ehJ_l]
    by_cases c : s.2.1 x = a ∨ s.2.1 x = b
    · rw [if_pos c, if_pos c, ec, wc]
      have e1 : (s.2.2 x + 1).toNat = (s.2.2 x).toNat + 1 := by omega
      rw [e1]
      have key : efb ((s.2.2 x).toNat + 2) ≤ s.1 b ∧ efb ((s.2.2 x).toNat + 1) + efb ((s.2.2 x).toNat + 2) ≤ s.1 a + s.1 b := by
        rcases c with c | c
        · have ea : (s.2.1 x).toNat = a := by omega
          rw [ea] at f1
          have := f2 b hb wb (by omega)
          omega
        · have eb : (s.2.1 x).toNat = b := by omega
          rw [eb] at f1
          have := f2 a ha wa (by omega)
          omega
      refine ⟨?_, ?_⟩
      · have e2 : efb ((s.2.2 x).toNat + 1 + 2) = efb ((s.2.2 x).toNat + 1) + efb ((s.2.2 x).toNat + 1 + 1) := efb_2 _
        rw [e2]
        exact key.2
      · intro y hy hy0 hyn
        obtain ⟨n1, n2, n3⟩ := wo y hy hy0 (by omega)
        rw [n3] at hy0 ⊢
        have := wj y hy hy0 n1 n2
        have k1 := key.1
        show efb ((s.2.2 x).toNat + 2) ≤ _
        omega
    · rw [if_neg c, if_neg c]
      have e3 : (ehJ a b s).1 (s.2.1 x).toNat = s.1 (s.2.1 x).toNat := by rw [ehJ_w, if_neg (by omega), if_neg (by omega)]
      refine ⟨by rw [e3]; exact f1, ?_⟩
      intro y hy hy0 hyn
      by_cases cy : y = ehm a b
      · rw [cy, wc]
        have := f2 a ha wa (by omega)
        omega
      · obtain ⟨n1, n2, n3⟩ := wo y hy hy0 cy
        rw [n3] at hy0 ⊢
        exact f2 y hy hy0 hyn
theorem ehI.step {w0 : Nat → Int} {s : ehT} (i : ehI w0 s) : ehI w0 (ehS s) := by
  rcases ehS_of s with ⟨_, e, _⟩ | ⟨_, _, o, e⟩
  · rw [e]
    exact i
  · rw [e]
    exact i.join o
theorem ehI.all {w : Nat → Int} (h : ∀ x, x < 257 → 0 ≤ w x) : ∀ n, ehI w (ehR w n)
  | 0 => ehI.zero h
  | n + 1 => (ehI.all h n).step
/-- no code is longer than 16 bits -/
theorem eh16 {w : Nat → Int} (h : ∀ x, x < 257 → 0 ≤ w x) (ht : gsf w 257 ≤ 4180) (n x : Nat) (hx : x < 257) : 0 ≤ (ehR w n).2.2 x ∧ (ehR w n).2.2 x ≤ 16 := by
  obtain ⟨i1, i2, i3, i4, i5⟩ := ehI.all h n
  by_cases h0 : 0 < w x
  · obtain ⟨g0, g1, g2, g3⟩ := i2 x hx h0
    obtain ⟨f1, _⟩ := i4 x hx h0
    have l := gsf_le2 (f := (ehR w n).1) (n := 257) (i := ((ehR w n).2.1 x).toNat) i1 (by omega)
    refine ⟨g3, ?_⟩
    by_cases c : (ehR w n).2.2 x ≤ 16
    · exact c
    · have m : efb 19 ≤ efb (((ehR w n).2.2 x).toNat + 2) := efb_le (by omega)
      have e : efb 19 = 4181 := by decide
      omega
  · obtain ⟨_, _, g2⟩ := i3 x hx h0
    omega
/-! from where on nothing changes -/
theorem ehR_fix {w : Nat → Int} {m : Nat} (h : ehS (ehR w m) = ehR w m) : ∀ j, ehR w (m + j) = ehR w m
  | 0 => rfl
  | j + 1 => by
    show ehS (ehR w (m + j)) = _
    rw [ehR_fix h j]
    exact h
theorem eac_nn (w : Nat → Int) : 0 ≤ eac w := by
  unfold eac
  exact gsf_nn (fun j => by split <;> omega) 257
theorem eac_st {w : Nat → Int} {n : Nat} (h : 2 ≤ eac (ehR w n).1) : eac (ehR w (n + 1)).1 = eac (ehR w n).1 - 1 := by
  rcases ehS_of (ehR w n) with ⟨_, _, a⟩ | ⟨_, _, o, e⟩
  · have := eac_one a
    omega
  · have e2 : ehR w (n + 1) = ehS (ehR w n) := rfl
    rw [e2, e, eac_join o]
theorem eac_R {w : Nat → Int} (h1 : 1 ≤ eac w) (n : Nat) (hn : (n : Int) ≤ eac w - 1) : eac (ehR w n).1 = eac w - n := by
  induction n with
  | zero =>
    have e : (ehR w 0).1 = w := rfl
    rw [e, Int.natCast_zero, Int.sub_zero]
  | succ n ih =>
    have ih := ih (by omega)
    rw [eac_st (by omega), ih]
    omega
theorem ehR_more {w : Nat → Int} (h1 : 1 ≤ eac w) {n : Nat} (hn : (n : Int) < eac w - 1) : 0 ≤ ehB (ehR w n) := by
  have e := eac_R h1 n (by omega)
  rcases ehS_of (ehR w n) with ⟨_, _, a⟩ | ⟨h, _, _, _⟩
  · have := eac_one a
    omega
  · exact h
theorem ehR_end {w : Nat → Int} (h1 : 1 ≤ eac w) {n : Nat} (hn : (n : Int) = eac w - 1) : ehS (ehR w n) = ehR w n := by
  have e := eac_R h1 n (by omega)
  rcases ehS_of (ehR w n) with ⟨_, h, _⟩ | ⟨_, _, o, _⟩
  · exact h
  · obtain ⟨ha, hb, hab, wa, wb, _, _⟩ := o
    have := eac_two ha hb hab wa wb
    omega
theorem eac_257 (w : Nat → Int) : eac w ≤ 257 := by
  have key : ∀ n : Nat, gsf (fun x => if 0 < w x then (1 : Int) else 0) n ≤ n := by
    intro n
    induction n with
    | zero => exact Int.le_refl _
    | succ n ih =>
      have e : gsf (fun x => if 0 < w x then (1 : Int) else 0) (n + 1) = gsf (fun x => if 0 < w x then (1 : Int) else 0) n + (if 0 < w n then 1 else 0) := rfl
      rw [e]
      split <;> omega
  exact key 257
def ehE (w : Nat → Int) : ehT := ehR w 257
theorem ehE_of {w : Nat → Int} {m : Nat} (hm : m ≤ 257) (h : ehS (ehR w m) = ehR w m) : ehE w = ehR w m := by
  have := ehR_fix h (257 - m)
  rw [(by omega : m + (257 - m) = 257)] at this
  exact this
theorem ehE_at {w : Nat → Int} (h1 : 1 ≤ eac w) {n : Nat} (hn : (n : Int) = eac w - 1) : ehE w = ehR w n := ehE_of (by have := eac_257 w; omega) (ehR_end h1 hn)
theorem eac_1 {w : Nat → Int} (h : 0 < w 256) : 1 ≤ eac w := by
  have l := gsf_le2 (f := fun x => if 0 < w x then (1 : Int) else 0) (n := 257) (i := 256) (fun j _ => by (try dsimp only); split <;> omega) (by omega)
  (try dsimp only at l)
  rw [if_pos h] at l
  exact l
theorem ehI.act {w0 : Nat → Int} {s : ehT} (i : ehI w0 s) : ∀ j9 : Nat, j9 < 257 → 0 < s.1 j9 → 0 < w0 j9 := by
  intro j hj h
  by_cases c : 0 < w0 j
  · exact c
  · have := (i.2.2.1 j hj c).1
    omega
theorem ehI.un {w0 : Nat → Int} {s : ehT} {a b : Int} (i : ehI w0 s) (o : ehO s (ehA s).toNat (ehB s).toNat) (ea : a = ehA s) (eb : b = ehB s) (h1 : 0 ≤ a) (h2 : 0 ≤ b) : ∀ j9 : Nat, j9 < 257 → ¬ 0 < w0 j9 → ¬ (s.2.1 j9 = a ∨ s.2.1 j9 = b) := by
  intro j hj hn w
  obtain ⟨x1, x2, _⟩ := i.2.2.1 j hj hn
  obtain ⟨_, _, _, wa, wb, _, _⟩ := o
  rcases w with w | w
  · rw [(by omega : (ehA s).toNat = j)] at wa
    omega
  · rw [(by omega : (ehB s).toNat = j)] at wb
    omega
theorem ehI.wm {w0 : Nat → Int} {s : ehT} (i : ehI w0 s) (h : gsf w0 257 ≤ 4180) : ∀ j9 : Nat, j9 < 257 → 0 ≤ s.1 j9 ∧ s.1 j9 ≤ 1000000 := by
  intro j hj
  have l := gsf_le2 (f := s.1) (n := 257) (i := j) i.1 hj
  have := i.2.2.2.2
  exact ⟨i.1 j hj, by omega⟩
