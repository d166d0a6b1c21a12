/-! ===== the scans that are told, of both ===== -/
def gEq (n : Nat) (f g : Nat → Int) : Prop := ∀ j, j < n → f j = g j
theorem gEq.sy {n : Nat} {f g : Nat → Int} (e : gEq n f g) : gEq n g f := fun j hj => (e j hj).symm
theorem gRow.eqv {ty : Nat → Nat} {q c : Nat} {f g : Nat → Int} {h : gH} (a : gRow ty q f h) (b : gRow ty q g h) (ht : ty c = q) : gEq 64 f g := fun j hj => (a.2 c ht j (by omega)).symm.trans (b.2 c ht j (by omega))
theorem gRow.jk {ty : Nat → Nat} {q j : Nat} {f : Nat → Int} {h : gH} (r : gRow ty q f h) : gRow ty q f (gjunk j h) := ⟨r.1, fun c hc i hi => r.2 c hc i hi⟩
def gSk (f : Nat → Int) (n a b t : Int) : Prop := ((a = 0 ∧ b = 0) ∨ (1 ≤ a ∧ a ≤ b ∧ b ≤ 63 ∧ 0 ≤ f (0 : Int).toNat)) ∧ (0 ≤ t ∧ t ≤ 3) ∧ n < 10 ∧ (f a.toNat = -1 ∨ f a.toNat = t + 1) ∧ ∀ j : Int, a ≤ j → j ≤ b → f j.toNat = f a.toNat
theorem gSk.cg {f g : Nat → Int} {n a b t : Int} (e : gEq 64 f g) (s : gSk f n a b t) : gSk g n a b t := by
  obtain ⟨s1, s2, s3, s4, s5⟩ := s
  have r : 0 ≤ a ∧ a ≤ b ∧ b ≤ 63 := by omega
  have ea := e a.toNat (by omega)
  have e0 := e (0 : Int).toNat (by decide)
  refine ⟨by rw [← e0]; exact s1, s2, s3, by rw [← ea]; exact s4, fun j h1 h2 => ?_⟩
  rw [← e j.toNat (by omega), ← ea]
  exact s5 j h1 h2
def gSf (f f1 : Nat → Int) (n a b t : Int) : Prop := (gSk f n a b t → ∀ j : Nat, j < 64 → f1 j = if a.toNat ≤ j ∧ j < (b + 1).toNat then t else f j) ∧ (¬ gSk f n a b t → gEq 64 f1 f)
theorem gSf.cg {f g f1 : Nat → Int} {n a b t : Int} (e : gEq 64 f g) (s : gSf f f1 n a b t) : gSf g f1 n a b t := ⟨fun k j hj => by rw [s.1 (k.cg e.sy) j hj, e j hj], fun k j hj => (s.2 (fun w => k (w.cg e)) j hj).trans (e j hj)⟩
theorem gSf.eq {f g f1 g1 : Nat → Int} {n a b t : Int} (e : gEq 64 f g) (s : gSf f f1 n a b t) (s2 : gSf g g1 n a b t) : gEq 64 f1 g1 := by
  intro j hj
  by_cases k : gSk f n a b t
  · rw [s.1 k j hj, s2.1 (k.cg e) j hj, e j hj]
  · rw [s.2 k j hj, s2.2 (fun w => k (w.cg e.sy)) j hj]
    exact e j hj
def gSz (f : Nat → Int) (n a b t z n1 : Int) : Prop := (gSk f n a b t → z = n + 1 ∧ n1 = n + 1) ∧ (¬ gSk f n a b t → z = 0 ∧ n1 = n)
theorem gSz.cg {f g : Nat → Int} {n a b t z n1 : Int} (e : gEq 64 f g) (s : gSz f n a b t z n1) : gSz g n a b t z n1 := ⟨fun k => s.1 (k.cg e.sy), fun k => s.2 (fun w => k (w.cg e))⟩
theorem gSz.eq {f g : Nat → Int} {n a b t z n1 y m1 : Int} (e : gEq 64 f g) (s : gSz f n a b t z n1) (s2 : gSz g n a b t y m1) : z = y ∧ n1 = m1 := by
  by_cases k : gSk f n a b t
  · have h1 := s.1 k
    have h2 := s2.1 (k.cg e)
    omega
  · have h1 := s.2 k
    have h2 := s2.2 (fun w => k (w.cg e.sy))
    omega
def gSx (ty : Nat → Nat) (q : Nat) (f : Nat → Int) (n a b t : Int) (h : gH) : Prop := ∃ f1 : Nat → Int, gRow ty q f1 h ∧ gSf f f1 n a b t
theorem gSx.fr {ty : Nat → Nat} {q : Nat} {f : Nat → Int} {n a b t : Int} {h h' : gH} {l : List Nat} (g : gFr rT ty l h h') (hl : ¬ (1000 * q + 999) ∈ l) (s : gSx ty q f n a b t h) : gSx ty q f n a b t h' := by
  obtain ⟨f1, x1, x2⟩ := s
  exact ⟨f1, x1.fr g hl, x2⟩
theorem gSx.pt {ty : Nat → Nat} {q : Nat} {f : Nat → Int} {n a b t : Int} {c9 j9 q2 : Nat} {h h' : gH} (g : ∀ x n, ¬ (x = c9 ∧ n = j9) → h'.2.2.2.2 x n = h.2.2.2.2 x n) (ht : ty c9 = q2) (hq : q2 ≠ q) (s : gSx ty q f n a b t h) : gSx ty q f n a b t h' := by
  obtain ⟨f1, x1, x2⟩ := s
  exact ⟨f1, x1.pt g ht hq, x2⟩
theorem gSx.gr {nk X l : List Nat} {ty ty2 : Nat → Nat} {q : Nat} {r : gRg} {f : Nat → Int} {n a b t : Int} {h h2 : gH} (g : gSg nk X l ty h ty2 h2) (hJ : gJ rT 1027 ty h) (hT : rT q = some r) (hn : ¬ q ∈ nk) (hl : ¬ (1000 * q + 999) ∈ l) (s : gSx ty q f n a b t h) : gSx ty2 q f n a b t h2 := by
  obtain ⟨f1, x1, x2⟩ := s
  exact ⟨f1, x1.gr g hJ hT hn hl, x2⟩
theorem gSx.no {ty : Nat → Nat} {q : Nat} {f c : Nat → Int} {n a b t : Int} {h : gH} (e : gEq 64 c f) (r : gRow ty q c h) (k : ¬ gSk c n a b t) : gSx ty q f n a b t h := ⟨c, r, gSf.cg e ⟨fun w => absurd w k, fun _ _ _ => rfl⟩⟩
theorem gSx.ys {ty : Nat → Nat} {q : Nat} {f c c2 : Nat → Int} {n a b t k9 : Int} {h : gH} (e : gEq 64 c f) (r : gRow ty q c2 h) (h0 : 0 ≤ a) (hk : k9 = b + 1) (m : gCm c c2 a k9 t) (k : gSk c n a b t) : gSx ty q f n a b t h := by
  subst hk
  exact ⟨c2, r, gSf.cg e ⟨fun _ j _ => m.2.2.2 h0 j, fun w => absurd k w⟩⟩
theorem gSz.no {f c : Nat → Int} {n a b t z n1 : Int} (e : gEq 64 c f) (k : ¬ gSk c n a b t) (h1 : z = 0) (h2 : n1 = n) : gSz f n a b t z n1 := gSz.cg e ⟨fun w => absurd w k, fun _ => ⟨h1, h2⟩⟩
theorem gSz.ys {f c : Nat → Int} {n a b t z n1 : Int} (e : gEq 64 c f) (k : gSk c n a b t) (h1 : z = n + 1) (h2 : n1 = n + 1) : gSz f n a b t z n1 := gSz.cg e ⟨fun _ => ⟨h1, h2⟩, fun w => absurd k w⟩
/-- bytes are written: the scans are forgotten -/
def gEf (f f1 : Nat → Int) (q w : Int) : Prop := ((1 ≤ q ∧ q ≤ 100 ∧ 1 ≤ w) → ∀ j : Nat, j < 64 → f1 j = -1) ∧ (¬ (1 ≤ q ∧ q ≤ 100 ∧ 1 ≤ w) → gEq 64 f1 f)
theorem gEf.eq {f g f1 g1 : Nat → Int} {q w : Int} (e : gEq 64 f g) (s : gEf f f1 q w) (s2 : gEf g g1 q w) : gEq 64 f1 g1 := by
  intro j hj
  by_cases k : 1 ≤ q ∧ q ≤ 100 ∧ 1 ≤ w
  · rw [s.1 k j hj, s2.1 k j hj]
  · rw [s.2 k j hj, s2.2 k j hj]
    exact e j hj
def gEy (ty : Nat → Nat) (q0 : Nat) (f : Nat → Int) (q w : Int) (h : gH) : Prop := ∃ f1 : Nat → Int, gRow ty q0 f1 h ∧ gEf f f1 q w
theorem gEy.fr {ty : Nat → Nat} {q0 : Nat} {f : Nat → Int} {q w : Int} {h h' : gH} {l : List Nat} (g : gFr rT ty l h h') (hl : ¬ (1000 * q0 + 999) ∈ l) (s : gEy ty q0 f q w h) : gEy ty q0 f q w h' := by
  obtain ⟨f1, x1, x2⟩ := s
  exact ⟨f1, x1.fr g hl, x2⟩
theorem gEy.pt {ty : Nat → Nat} {q0 : Nat} {f : Nat → Int} {q w : Int} {c9 j9 q2 : Nat} {h h' : gH} (g : ∀ x n, ¬ (x = c9 ∧ n = j9) → h'.2.2.2.2 x n = h.2.2.2.2 x n) (ht : ty c9 = q2) (hq : q2 ≠ q0) (s : gEy ty q0 f q w h) : gEy ty q0 f q w h' := by
  obtain ⟨f1, x1, x2⟩ := s
  exact ⟨f1, x1.pt g ht hq, x2⟩
theorem gEy.gr {nk X l : List Nat} {ty ty2 : Nat → Nat} {q0 : Nat} {r : gRg} {f : Nat → Int} {q w : Int} {h h2 : gH} (g : gSg nk X l ty h ty2 h2) (hJ : gJ rT 1027 ty h) (hT : rT q0 = some r) (hn : ¬ q0 ∈ nk) (hl : ¬ (1000 * q0 + 999) ∈ l) (s : gEy ty q0 f q w h) : gEy ty2 q0 f q w h2 := by
  obtain ⟨f1, x1, x2⟩ := s
  exact ⟨f1, x1.gr g hJ hT hn hl, x2⟩
theorem gEy.jk {ty : Nat → Nat} {q0 j : Nat} {f : Nat → Int} {q w : Int} {h : gH} (s : gEy ty q0 f q w h) : gEy ty q0 f q w (gjunk j h) := by
  obtain ⟨f1, x1, x2⟩ := s
  exact ⟨f1, x1.jk, x2⟩
theorem gEy.no {ty : Nat → Nat} {q0 : Nat} {f : Nat → Int} {q w : Int} {h : gH} (r : gRow ty q0 f h) (k : ¬ (1 ≤ q ∧ q ≤ 100 ∧ 1 ≤ w)) : gEy ty q0 f q w h := ⟨f, r, fun s => absurd s k, fun _ _ _ => rfl⟩
theorem gEy.oy {ty : Nat → Nat} {q0 : Nat} {f : Nat → Int} {q w : Int} {h : gH} (s : gOy ty q0 (-1) 64 h) (k : 1 ≤ q ∧ q ≤ 100 ∧ 1 ≤ w) : gEy ty q0 f q w h := by
  obtain ⟨f1, x1, x2⟩ := s
  exact ⟨f1, x1, fun _ j hj => x2 j hj, fun s => absurd k s⟩
def gRe (ty : Nat → Nat) (h : gH) : Prop := ∃ f g : Nat → Int, gRow ty 64 f h ∧ gRow ty 31 g h ∧ gEq 64 f g
theorem gRe.fr {ty : Nat → Nat} {h h' : gH} {l : List Nat} (g : gFr rT ty l h h') (h1 : ¬ 64999 ∈ l) (h2 : ¬ 31999 ∈ l) (s : gRe ty h) : gRe ty h' := by
  obtain ⟨f, k, x1, x2, x3⟩ := s
  exact ⟨f, k, x1.fr g h1, x2.fr g h2, x3⟩
theorem gRe.gr {nk X l : List Nat} {ty ty2 : Nat → Nat} {h h2 : gH} (g : gSg nk X l ty h ty2 h2) (hJ : gJ rT 1027 ty h) (n1 : ¬ 64 ∈ nk) (n2 : ¬ 31 ∈ nk) (m1 : ¬ 64999 ∈ l) (m2 : ¬ 31999 ∈ l) (s : gRe ty h) : gRe ty2 h2 := by
  obtain ⟨f, k, x1, x2, x3⟩ := s
  exact ⟨f, k, x1.gr g hJ rfl n1 m1, x2.gr g hJ rfl n2 m2, x3⟩
theorem gRe.jk {ty : Nat → Nat} {j : Nat} {h : gH} (s : gRe ty h) : gRe ty (gjunk j h) := by
  obtain ⟨f, k, x1, x2, x3⟩ := s
  exact ⟨f, k, x1.jk, x2.jk, x3⟩
theorem gRe.oy {ty : Nat → Nat} {v : Int} {h : gH} (a : gOy ty 64 v 64 h) (b : gOy ty 31 v 64 h) : gRe ty h := by
  obtain ⟨f, x1, x2⟩ := a
  obtain ⟨g, y1, y2⟩ := b
  exact ⟨f, g, x1, y1, fun j hj => (x2 j hj).trans (y2 j hj).symm⟩
theorem gRe.sx {ty : Nat → Nat} {f g : Nat → Int} {n a b t : Int} {h : gH} (e : gEq 64 f g) (s : gSx ty 64 f n a b t h) (s2 : gSx ty 31 g n a b t h) : gRe ty h := by
  obtain ⟨f1, x1, x2⟩ := s
  obtain ⟨g1, y1, y2⟩ := s2
  exact ⟨f1, g1, x1, y1, gSf.eq e x2 y2⟩
theorem gRe.ey {ty : Nat → Nat} {f g : Nat → Int} {q w : Int} {h : gH} (e : gEq 64 f g) (s : gEy ty 64 f q w h) (s2 : gEy ty 31 g q w h) : gRe ty h := by
  obtain ⟨f1, x1, x2⟩ := s
  obtain ⟨g1, y1, y2⟩ := s2
  exact ⟨f1, g1, x1, y1, gEf.eq e x2 y2⟩
