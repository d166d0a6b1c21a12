/-! ===== codes that suit, as functions ===== -/
def ehL (w : Nat → Int) (ex : Int) : Nat → Int
  | 0 => -1
  | n + 1 => if (0 < w n ∧ ¬ (n : Int) = ex) ∧ (ehL w ex n < 0 ∨ w n ≤ w (ehL w ex n).toNat) then (n : Int) else ehL w ex n
def ehP (w : Nat → Int) (ex : Int) (n : Nat) (b : Int) : Prop :=
  (b = -1 ∧ ∀ j : Nat, j < n → 0 < w j → (j : Int) = ex) ∨
  (0 ≤ b ∧ b < n ∧ 0 < w b.toNat ∧ ¬ b = ex ∧ ∀ j : Nat, j < n → 0 < w j → ¬ (j : Int) = ex → w b.toNat < w j ∨ (w b.toNat = w j ∧ (j : Int) ≤ b))
theorem ehL_P (w : Nat → Int) (ex : Int) : ∀ n, ehP w ex n (ehL w ex n)
  | 0 => Or.inl ⟨rfl, fun j hj => absurd hj (Nat.not_lt_zero _)⟩
  | n + 1 => by
    have ih := ehL_P w ex n
    have en : ((n : Int)).toNat = n := by omega
    unfold ehL
    split
    · rename_i c
      obtain ⟨⟨c1, c2⟩, c3⟩ := c
      refine Or.inr ⟨by omega, by omega, by rw [en]; exact c1, c2, ?_⟩
      intro j hj h0 hne
      rw [en]
      by_cases e : j = n
      · subst e
        exact Or.inr ⟨rfl, by omega⟩
      · rcases ih with ⟨_, a⟩ | ⟨b0, b1, b2, b3, b4⟩
        · exact absurd (a j (by omega) h0) hne
        · have x := b4 j (by omega) h0 hne
          omega
    · rename_i c
      rcases ih with ⟨e, a⟩ | ⟨b0, b1, b2, b3, b4⟩
      · refine Or.inl ⟨e, ?_⟩
        intro j hj h0
        by_cases e2 : j = n
        · subst e2
          by_cases e3 : (j : Int) = ex
          · exact e3
          · exact absurd ⟨⟨h0, e3⟩, Or.inl (by omega)⟩ c
        · exact a j (by omega) h0
      · refine Or.inr ⟨b0, by omega, b2, b3, ?_⟩
        intro j hj h0 hne
        by_cases e2 : j = n
        · subst e2
          refine Or.inl ?_
          by_cases e3 : w (ehL w ex j).toNat < w j
          · exact e3
          · exact absurd ⟨⟨h0, hne⟩, Or.inr (by omega)⟩ c
        · exact b4 j (by omega) h0 hne
theorem ehP.uq {w : Nat → Int} {ex : Int} {n : Nat} {b c : Int} (h : ehP w ex n b) (h' : ehP w ex n c) : b = c := by
  rcases h with ⟨e, a⟩ | ⟨b0, b1, b2, b3, b4⟩
  · rcases h' with ⟨e', a'⟩ | ⟨c0, c1, c2, c3, c4⟩
    · omega
    · have := a c.toNat (by omega) c2
      omega
  · rcases h' with ⟨e', a'⟩ | ⟨c0, c1, c2, c3, c4⟩
    · have := a' b.toNat (by omega) b2
      omega
    · have x := b4 c.toNat (by omega) c2 (by omega)
      have y := c4 b.toNat (by omega) b2 (by omega)
      omega
theorem ehL_uq {w : Nat → Int} {ex : Int} {n : Nat} {b : Int} (h : ehP w ex n b) : ehL w ex n = b := (ehL_P w ex n).uq h
abbrev ehT := (Nat → Int) × (Nat → Int) × (Nat → Int)
def ehm (a b : Nat) : Nat := if a ≤ b then b else a
def ehJ (a b : Nat) (s : ehT) : ehT :=
  (fun x => if x = ehm a b then s.1 a + s.1 b else if x = a ∨ x = b then 0 else s.1 x,
   fun x => if s.2.1 x = a ∨ s.2.1 x = b then (ehm a b : Nat) else s.2.1 x,
   fun x => if s.2.1 x = a ∨ s.2.1 x = b then s.2.2 x + 1 else s.2.2 x)
def ehA (s : ehT) : Int := ehL s.1 (-1) 257
def ehB (s : ehT) : Int := ehL s.1 (ehA s) 257
def ehS (s : ehT) : ehT := if ehB s < 0 then s else ehJ (ehA s).toNat (ehB s).toNat s
def ehR (w : Nat → Int) : Nat → ehT
  | 0 => (w, fun x => (x : Int), fun _ => 0)
  | n + 1 => ehS (ehR w n)
def ehO (s : ehT) (a b : Nat) : Prop := a < 257 ∧ b < 257 ∧ a ≠ b ∧ 0 < s.1 a ∧ 0 < s.1 b ∧ s.1 a ≤ s.1 b ∧ (∀ j, j < 257 → 0 < s.1 j → j ≠ a → j ≠ b → s.1 b ≤ s.1 j)
theorem ehS_of (s : ehT) : (ehB s < 0 ∧ ehS s = s ∧ ∀ j : Nat, j < 257 → 0 < s.1 j → (j : Int) = ehA s) ∨ (0 ≤ ehB s ∧ 0 ≤ ehA s ∧ ehO s (ehA s).toNat (ehB s).toNat ∧ ehS s = ehJ (ehA s).toNat (ehB s).toNat s) := by
  have pa := ehL_P s.1 (-1) 257
  have pb := ehL_P s.1 (ehA s) 257
  change ehP s.1 (-1) 257 (ehA s) at pa
  change ehP s.1 (ehA s) 257 (ehB s) at pb
  by_cases hb : ehB s < 0
  · refine Or.inl ⟨hb, if_pos hb, ?_⟩
    rcases pb with ⟨e, a⟩ | ⟨b0, b1, b2, b3, b4⟩
    · exact a
    · omega
  · rcases pb with ⟨e, a⟩ | ⟨b0, b1, b2, b3, b4⟩
    · omega
    · rcases pa with ⟨e, a⟩ | ⟨a0, a1, a2, a3, a4⟩
      · have := a (ehB s).toNat (by omega) b2
        omega
      · refine Or.inr ⟨b0, a0, ⟨by omega, by omega, by omega, a2, b2, ?_, ?_⟩, if_neg hb⟩
        · have := a4 (ehB s).toNat (by omega) b2 (by omega)
          omega
        · intro j hj h0 h1 h2
          have := b4 j hj h0 (by omega)
          omega
/-! counts and sums -/
def eac (w : Nat → Int) : Int := gsf (fun x => if 0 < w x then 1 else 0) 257
theorem eac_one {w : Nat → Int} {a : Int} (h : ∀ j : Nat, j < 257 → 0 < w j → (j : Int) = a) : eac w ≤ 1 := by
  have key : ∀ n : Nat, n ≤ 257 → gsf (fun x => if 0 < w x then (1 : Int) else 0) n ≤ (if a < (n : Int) then 1 else 0) ∧ 0 ≤ gsf (fun x => if 0 < w x then (1 : Int) else 0) n := by
    intro n
    induction n with
    | zero => intro _; refine ⟨?_, Int.le_refl _⟩; show (0 : Int) ≤ _; split <;> omega
    | succ n ih =>
      intro hn
      have ih := ih (by omega)
      have e : gsf (fun x => if 0 < w x then (1 : Int) else 0) (n + 1) = gsf (fun x => if 0 < w x then (1 : Int) else 0) n + (if 0 < w n then 1 else 0) := rfl
      rw [e]
      by_cases h0 : 0 < w n
      · have := h n (by omega) h0
        rw [if_pos h0]
        have h1 := ih.1
        rw [if_neg (by omega)] at h1
        rw [if_pos (by omega)]
        omega
      · rw [if_neg h0]
        have h1 := ih.1
        refine ⟨?_, by omega⟩
        split at h1
        · rw [if_pos (by omega)]
          omega
        · split <;> omega
  have := (key 257 (by omega)).1
  unfold eac
  split at this <;> omega
theorem gsf_le2 {f : Nat → Int} : ∀ {n i : Nat}, (∀ j, j < n → 0 ≤ f j) → i < n → f i ≤ gsf f n
  | 0, i, _, hi => absurd hi (Nat.not_lt_zero _)
  | n + 1, i, hf, hi => by
    have e : gsf f (n + 1) = gsf f n + f n := rfl
    have h0 := hf n (by omega)
    by_cases c : i = n
    · subst c
      have : 0 ≤ gsf f i := by
        have h := gsf_mono2 (f := f) (k := 0) (n := i) (fun j hj => hf j (by omega)) (by omega)
        exact h
      omega
    · have := gsf_le2 (n := n) (i := i) (fun j hj => hf j (by omega)) (by omega)
      omega
theorem eac_two {w : Nat → Int} {a b : Nat} (ha : a < 257) (hb : b < 257) (hab : a ≠ b) (wa : 0 < w a) (wb : 0 < w b) : 2 ≤ eac w := by
  unfold eac
  have e := gsf_up (f := fun x => if 0 < w x then (1 : Int) else 0) (i := a) (v := 0) ha
  have l := gsf_le2 (f := gfu (fun x => if 0 < w x then (1 : Int) else 0) a 0) (n := 257) (i := b) (fun j _ => by unfold gfu; split <;> first | omega | (dsimp only; split <;> omega)) hb
  rw [gfu_ne (Ne.symm hab)] at l
  (try dsimp only at e)
  (try dsimp only at l)
  rw [if_pos wa] at e
  rw [if_pos wb] at l
  omega
theorem ehJ_w {s : ehT} {a b : Nat} (x : Nat) : (ehJ a b s).1 x = if x = ehm a b then s.1 a + s.1 b else if x = a ∨ x = b then 0 else s.1 x := rfl
theorem ehJ_g {s : ehT} {a b : Nat} (x : Nat) : (ehJ a b s).2.1 x = if s.2.1 x = a ∨ s.2.1 x = b then ((ehm a b : Nat) : Int) else s.2.1 x := rfl
theorem ehJ_l {s : ehT} {a b : Nat} (x : Nat) : (ehJ a b s).2.2 x = if s.2.1 x = a ∨ s.2.1 x = b then s.2.2 x + 1 else s.2.2 x := rfl
def ehn (a b : Nat) : Nat := if a ≤ b then a else b
theorem eac_join {s : ehT} {a b : Nat} (o : ehO s a b) : eac (ehJ a b s).1 = eac s.1 - 1 := by
  obtain ⟨ha, hb, hab, wa, wb, _, _⟩ := o
  unfold eac
  have hd : ehn a b < 257 := by unfold ehn; split <;> omega
  have e := gsf_up (f := fun x => if 0 < s.1 x then (1 : Int) else 0) (i := ehn a b) (v := 0) hd
  have c : gsf (fun x => if 0 < (ehJ a b s).1 x then (1 : Int) else 0) 257 = gsf (gfu (fun x => if 0 < s.1 x then (1 : Int) else 0) (ehn a b) 0) 257 := gsf_cg (fun j hj => by
    rw [ehJ_w]
    unfold gfu ehm ehn
    by_cases c1 : a ≤ b
    · rw [if_pos c1, if_pos c1]
      by_cases c2 : j = b
      · subst c2
        rw [if_pos rfl, if_pos (by omega), if_neg (by omega)]
        exact (if_pos wb).symm
      · rw [if_neg c2]
        by_cases c3 : j = a
        · subst c3
          rw [if_pos (Or.inl rfl), if_pos rfl]
          rfl
        · rw [if_neg (show ¬ (j = a ∨ j = b) from fun w => w.elim c3 c2), if_neg c3]
    · rw [if_neg c1, if_neg c1]
      by_cases c2 : j = a
      · subst c2
        rw [if_pos rfl, if_pos (by omega), if_neg (by omega)]
        exact (if_pos wa).symm
      · rw [if_neg c2]
        by_cases c3 : j = b
        · subst c3
          rw [if_pos (Or.inr rfl), if_pos rfl]
          rfl
        · rw [if_neg (show ¬ (j = a ∨ j = b) from fun w => w.elim c2 c3), if_neg c3])
  rw [c, e]
  have : (if 0 < s.1 (ehn a b) then (1 : Int) else 0) = 1 := by
    have h9 : 0 < s.1 (ehn a b) := by
      unfold ehn
      split
      · exact wa
      · exact wb
    exact if_pos h9
  rw [this]
  omega
theorem sum_join {s : ehT} {a b : Nat} (o : ehO s a b) : gsf (ehJ a b s).1 257 = gsf s.1 257 := by
  obtain ⟨ha, hb, hab, wa, wb, _, _⟩ := o
  have hd : ehn a b < 257 := by unfold ehn; split <;> omega
  have hc : ehm a b < 257 := by unfold ehm; split <;> omega
  have hdc : ehn a b ≠ ehm a b := by unfold ehn ehm; split <;> omega
  have e := gsf_up (f := s.1) (i := ehn a b) (v := 0) hd
  have e2 := gsf_up (f := gfu s.1 (ehn a b) 0) (i := ehm a b) (v := s.1 a + s.1 b) hc
  rw [gfu_ne (Ne.symm hdc), e] at e2
  have c : gsf (ehJ a b s).1 257 = gsf (gfu (gfu s.1 (ehn a b) 0) (ehm a b) (s.1 a + s.1 b)) 257 := gsf_cg (fun j hj => by
    rw [ehJ_w]
    by_cases c2 : j = ehm a b
    · rw [if_pos c2, c2, gfu_eq]
    · rw [if_neg c2, gfu_ne c2]
      by_cases c3 : j = ehn a b
      · rw [c3, gfu_eq, if_pos]
        unfold ehn
        split
        · exact Or.inl rfl
        · exact Or.inr rfl
      · rw [gfu_ne c3, if_neg]
        unfold ehn ehm at *
        split at c3 <;> simp_all)
  rw [c, e2]
  have : s.1 (ehn a b) + s.1 (ehm a b) = s.1 a + s.1 b := by
    unfold ehn ehm
    by_cases c1 : a ≤ b
    · rw [if_pos c1, if_pos c1]
    · rw [if_neg c1, if_neg c1]
      omega
  omega
