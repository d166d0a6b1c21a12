/-! ===== the tables of both ===== -/
def gEq (n : Nat) (f g : Nat → Int) : Prop := ∀ j, j < n → f j = g j
def gVb (f : Nat → Int) (a b v : Int) : Nat → Int := if (0 ≤ a ∧ a ≤ 3 ∧ 0 ≤ b ∧ b ≤ 63) ∧ 1 ≤ v ∧ v ≤ 255 then gfu f (a * 64 + b).toNat v else f
theorem gfu_self {f : Nat → Int} {n : Nat} {w : Int} (e : f n = w) : gfu f n w = f := by
  funext j
  unfold gfu
  split
  · rename_i h
    rw [h, e]
  · rfl
theorem gVb.n {ty : Nat → Nat} {q : Nat} {f : Nat → Int} {a b v : Int} {h : gH} (c : ¬ ((0 ≤ a ∧ a ≤ 3 ∧ 0 ≤ b ∧ b ≤ 63) ∧ 1 ≤ v ∧ v ≤ 255)) (r : gRow ty q f h) : gRow ty q (gVb f a b v) h := by
  unfold gVb
  rw [if_neg c]
  exact r
theorem gVb.y {ty : Nat → Nat} {q : Nat} {f : Nat → Int} {a b v i : Int} {h : gH} (c : (0 ≤ a ∧ a ≤ 3 ∧ 0 ≤ b ∧ b ≤ 63) ∧ 1 ≤ v ∧ v ≤ 255) (e : i = a * 64 + b) (r : gRow ty q (gfu f i.toNat v) h) : gRow ty q (gVb f a b v) h := by
  unfold gVb
  rw [if_pos c, ← e]
  exact r
theorem gVb.s {ty : Nat → Nat} {q n : Nat} {f : Nat → Int} {a b v w : Int} {h : gH} (c : ¬ ((0 ≤ a ∧ a ≤ 3 ∧ 0 ≤ b ∧ b ≤ 63) ∧ 1 ≤ v ∧ v ≤ 255)) (e : f n = w) (r : gRow ty q (gfu f n w) h) : gRow ty q (gVb f a b v) h := by
  rw [gfu_self e] at r
  exact gVb.n c r
theorem gVb.eq {N : Nat} {f g : Nat → Int} {a b v : Int} (h : gEq N f g) : gEq N (gVb f a b v) (gVb g a b v) := by
  intro j hj
  unfold gVb
  split
  · unfold gfu
    split
    · rfl
    · exact h j hj
  · exact h j hj
theorem gRow.jk {ty : Nat → Nat} {q j : Nat} {f : Nat → Int} {h : gH} (r : gRow ty q f h) : gRow ty q f (gjunk j h) := ⟨r.1, fun c hc i hi => r.2 c hc i hi⟩
def gRe (ty : Nat → Nat) (h : gH) : Prop := ∃ f g : Nat → Int, gRow ty 53 f h ∧ gRow ty 8 g h ∧ gEq 256 f g
theorem gRe.fr {ty : Nat → Nat} {h h' : gH} {l : List Nat} (g : gFr rT ty l h h') (h1 : ¬ 53999 ∈ l) (h2 : ¬ 8999 ∈ l) (s : gRe ty h) : gRe ty h' := by
  obtain ⟨f, k, x1, x2, x3⟩ := s
  exact ⟨f, k, x1.fr g h1, x2.fr g h2, x3⟩
theorem gRe.gr {nk X l : List Nat} {ty ty2 : Nat → Nat} {h h2 : gH} (g : gSg nk X l ty h ty2 h2) (hJ : gJ rT 1027 ty h) (n1 : ¬ 53 ∈ nk) (n2 : ¬ 8 ∈ nk) (m1 : ¬ 53999 ∈ l) (m2 : ¬ 8999 ∈ l) (s : gRe ty h) : gRe ty2 h2 := by
  obtain ⟨f, k, x1, x2, x3⟩ := s
  exact ⟨f, k, x1.gr g hJ rfl n1 m1, x2.gr g hJ rfl n2 m2, x3⟩
theorem gRe.jk {ty : Nat → Nat} {j : Nat} {h : gH} (s : gRe ty h) : gRe ty (gjunk j h) := by
  obtain ⟨f, k, x1, x2, x3⟩ := s
  exact ⟨f, k, x1.jk, x2.jk, x3⟩
theorem gRe.oy {ty : Nat → Nat} {v : Int} {h : gH} (a : gOy ty 53 v 256 h) (b : gOy ty 8 v 256 h) : gRe ty h := by
  obtain ⟨f, x1, x2⟩ := a
  obtain ⟨g, y1, y2⟩ := b
  exact ⟨f, g, x1, y1, fun j hj => (x2 j hj).trans (y2 j hj).symm⟩
