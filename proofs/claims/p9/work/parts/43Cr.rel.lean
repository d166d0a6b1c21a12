/-! ===== the canvas of both ===== -/
def gRoB (ty : Nat → Nat) (q : Nat) (f : Nat → Int) (h : gH) : Prop := (∀ k, gpl rT q k = 1000 * q + 999) ∧ ∀ c, ty c = q → ∀ i, i < 1024 → gvI (h.2.2.2.2 c i) = f i
theorem gRoB.fr {ty : Nat → Nat} {q : Nat} {f : Nat → Int} {h h' : gH} {l : List Nat} (g : gFr rT ty l h h') (hl : ¬ (1000 * q + 999) ∈ l) (p : gRoB ty q f h) : gRoB ty q f h' := ⟨p.1, fun c hc i hi => by
  rw [g.2.2.2.2 c i (by rw [hc, p.1]; exact hl)]
  exact p.2 c hc i hi⟩
theorem gRoB.pt {ty : Nat → Nat} {q b j q2 : Nat} {f : Nat → Int} {h h' : gH} (g : ∀ x n, ¬ (x = b ∧ n = j) → h'.2.2.2.2 x n = h.2.2.2.2 x n) (ht : ty b = q2) (hq : q2 ≠ q) (p : gRoB ty q f h) : gRoB ty q f h' := ⟨p.1, fun c hc i hi => by
  rw [g c i (fun w => hq (by rw [← ht, ← hc, w.1]))]
  exact p.2 c hc i hi⟩
theorem gRoB.at {ty : Nat → Nat} {q c : Nat} {f : Nat → Int} {h : gH} {i z : Int} (p : gRoB ty q f h) (ht : ty c = q) (e : h.2.2.2.2 c i.toNat = .int (zi z)) (h1 : -2147483648 ≤ z) (h2 : z ≤ 2147483647) (hi : i.toNat < 1024) : f i.toNat = z := by
  rw [← p.2 c ht _ hi, e]
  exact zi_in (by omega)
theorem gRoB.put {ty : Nat → Nat} {q c : Nat} {f : Nat → Int} {h h' : gH} {i z : Int} (uq : gUq ty) (ht : ty c = q) (hq : 1 ≤ q ∧ q < 100) (g : ∀ x n, ¬ (x = c ∧ n = i.toNat) → h'.2.2.2.2 x n = h.2.2.2.2 x n) (e : h'.2.2.2.2 c i.toNat = .int (zi z)) (h1 : -2147483648 ≤ z) (h2 : z ≤ 2147483647) (p : gRoB ty q f h) : gRoB ty q (gfu f i.toNat z) h' := ⟨p.1, fun c2 hc j hj9 => by
  have e9 : c2 = c := uq c2 c (hc.trans ht.symm) (by rw [hc]; exact hq.1) (by rw [hc]; exact hq.2)
  subst e9
  by_cases hj : j = i.toNat
  · rw [hj, e, gfu_eq]
    exact zi_in (by omega)
  · rw [g c2 j (fun w => hj w.2), gfu_ne hj]
    exact p.2 c2 hc j hj9⟩
theorem gRoB.gr {nk X l : List Nat} {ty ty2 : Nat → Nat} {h h2 : gH} {q : Nat} {r : gRg} {f : Nat → Int} (g : gSg nk X l ty h ty2 h2) (hJ : gJ rT 1027 ty h) (hT : rT q = some r) (hn : ¬ q ∈ nk) (hl : ¬ (1000 * q + 999) ∈ l) (e : gRoB ty q f h) : gRoB ty2 q f h2 := ⟨e.1, fun c ht i hi => by
  have e1 := g.at (k := i) hJ (g.old ht hn) hT (by rw [e.1]; exact hl) rfl
  rw [e1]
  exact e.2 c (g.old ht hn) i hi⟩
def gOyB (ty : Nat → Nat) (q : Nat) (v k : Int) (h : gH) : Prop := ∃ f : Nat → Int, gRoB ty q f h ∧ ∀ j, j < k.toNat → f j = v
theorem gOyB.fr {ty : Nat → Nat} {q : Nat} {v k : Int} {h h' : gH} {l : List Nat} (g : gFr rT ty l h h') (hl : ¬ (1000 * q + 999) ∈ l) (s : gOyB ty q v k h) : gOyB ty q v k h' := by
  obtain ⟨f, x1, x2⟩ := s
  exact ⟨f, x1.fr g hl, x2⟩
theorem gOyB.pt {ty : Nat → Nat} {q : Nat} {v k : Int} {c9 j9 q2 : Nat} {h h' : gH} (g : ∀ x n, ¬ (x = c9 ∧ n = j9) → h'.2.2.2.2 x n = h.2.2.2.2 x n) (ht : ty c9 = q2) (hq : q2 ≠ q) (s : gOyB ty q v k h) : gOyB ty q v k h' := by
  obtain ⟨f, x1, x2⟩ := s
  exact ⟨f, x1.pt g ht hq, x2⟩
theorem gOyB.gr {nk X l : List Nat} {ty ty2 : Nat → Nat} {q : Nat} {r : gRg} {v k : Int} {h h2 : gH} (g : gSg nk X l ty h ty2 h2) (hJ : gJ rT 1027 ty h) (hT : rT q = some r) (hn : ¬ q ∈ nk) (hl : ¬ (1000 * q + 999) ∈ l) (s : gOyB ty q v k h) : gOyB ty2 q v k h2 := by
  obtain ⟨f, x1, x2⟩ := s
  exact ⟨f, x1.gr g hJ hT hn hl, x2⟩
theorem gOyB.new {ty : Nat → Nat} {q c : Nat} {n : Int} {h : gH} (uq : gUq ty) (ht : ty c = q) (hq : 1 ≤ q ∧ q < 100) (hT : ∀ k, gpl rT q k = 1000 * q + 999) (d : ∀ k, h.2.2.2.2 c k = .int 0) : gOyB ty q 0 n h := ⟨fun _ => 0, ⟨hT, fun c2 hc i _ => by
  have e9 : c2 = c := uq c2 c (hc.trans ht.symm) (by rw [hc]; exact hq.1) (by rw [hc]; exact hq.2)
  rw [e9, d]
  rfl⟩, fun _ _ => rfl⟩
def gEq (n : Nat) (f g : Nat → Int) : Prop := ∀ j, j < n → f j = g j
def gVb (f : Nat → Int) (a b v : Int) : Nat → Int := if (0 ≤ a ∧ a ≤ 31 ∧ 0 ≤ b ∧ b ≤ 31) ∧ 0 ≤ v ∧ v ≤ 255 then gfu f (b * 32 + a).toNat v else f
theorem gfu_self {f : Nat → Int} {n : Nat} {w : Int} (e : f n = w) : gfu f n w = f := by
  funext j
  unfold gfu
  split
  · rename_i h
    rw [h, e]
  · rfl
theorem gVb.n {ty : Nat → Nat} {q : Nat} {f : Nat → Int} {a b v : Int} {h : gH} (c : ¬ ((0 ≤ a ∧ a ≤ 31 ∧ 0 ≤ b ∧ b ≤ 31) ∧ 0 ≤ v ∧ v ≤ 255)) (r : gRoB ty q f h) : gRoB ty q (gVb f a b v) h := by
  unfold gVb
  rw [if_neg c]
  exact r
theorem gVb.y {ty : Nat → Nat} {q : Nat} {f : Nat → Int} {a b v i : Int} {h : gH} (c : (0 ≤ a ∧ a ≤ 31 ∧ 0 ≤ b ∧ b ≤ 31) ∧ 0 ≤ v ∧ v ≤ 255) (e : i = b * 32 + a) (r : gRoB ty q (gfu f i.toNat v) h) : gRoB ty q (gVb f a b v) h := by
  unfold gVb
  rw [if_pos c, ← e]
  exact r
theorem gVb.eq {N : Nat} {f g : Nat → Int} {a b v : Int} (h : gEq N f g) : gEq N (gVb f a b v) (gVb g a b v) := by
  intro j hj
  unfold gVb
  split
  · unfold gfu
    split
    · rfl
    · exact h j hj
  · exact h j hj
theorem gRoB.jk {ty : Nat → Nat} {q j : Nat} {f : Nat → Int} {h : gH} (r : gRoB ty q f h) : gRoB ty q f (gjunk j h) := ⟨r.1, fun c hc i hi => r.2 c hc i hi⟩
def gRe (ty : Nat → Nat) (h : gH) : Prop := ∃ f g : Nat → Int, gRoB ty 59 f h ∧ gRoB ty 26 g h ∧ gEq 1024 f g
theorem gRe.fr {ty : Nat → Nat} {h h' : gH} {l : List Nat} (g : gFr rT ty l h h') (h1 : ¬ 59999 ∈ l) (h2 : ¬ 26999 ∈ l) (s : gRe ty h) : gRe ty h' := by
  obtain ⟨f, k, x1, x2, x3⟩ := s
  exact ⟨f, k, x1.fr g h1, x2.fr g h2, x3⟩
theorem gRe.gr {nk X l : List Nat} {ty ty2 : Nat → Nat} {h h2 : gH} (g : gSg nk X l ty h ty2 h2) (hJ : gJ rT 1027 ty h) (n1 : ¬ 59 ∈ nk) (n2 : ¬ 26 ∈ nk) (m1 : ¬ 59999 ∈ l) (m2 : ¬ 26999 ∈ l) (s : gRe ty h) : gRe ty2 h2 := by
  obtain ⟨f, k, x1, x2, x3⟩ := s
  exact ⟨f, k, x1.gr g hJ rfl n1 m1, x2.gr g hJ rfl n2 m2, x3⟩
theorem gRe.jk {ty : Nat → Nat} {j : Nat} {h : gH} (s : gRe ty h) : gRe ty (gjunk j h) := by
  obtain ⟨f, k, x1, x2, x3⟩ := s
  exact ⟨f, k, x1.jk, x2.jk, x3⟩
theorem gRe.oy {ty : Nat → Nat} {v : Int} {h : gH} (a : gOyB ty 59 v 1024 h) (b : gOyB ty 26 v 1024 h) : gRe ty h := by
  obtain ⟨f, x1, x2⟩ := a
  obtain ⟨g, y1, y2⟩ := b
  exact ⟨f, g, x1, y1, fun j hj => (x2 j hj).trans (y2 j hj).symm⟩
