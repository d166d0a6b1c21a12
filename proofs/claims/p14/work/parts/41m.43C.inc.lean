/-! ===== shifts without a sign; rows that grow upward; codes' lengths ===== -/
theorem zi_ush {x : Int} {n : Nat} {m : UInt32} (h0 : 0 ≤ x) (h1 : x < 2147483648) (hm : m.toNat = n) (hn : n < 32) : ((zi x).toUInt32 >>> m).toInt32 = zi (x / 2 ^ n) := by
  obtain ⟨k, rfl⟩ := Int.eq_ofNat_of_zero_le h0
  have a1 : (zi (k : Int)).toUInt32.toNat = k := by
    show (BitVec.ofInt 32 (k : Int)).toNat = k
    rw [BitVec.toNat_ofInt]
    omega
  have t : ((zi (k : Int)).toUInt32 >>> m).toNat = k / 2 ^ n := by
    rw [UInt32.toNat_shiftRight, a1, hm, Nat.mod_eq_of_lt hn, Nat.shiftRight_eq_div_pow]
  have hd : k / 2 ^ n ≤ k := Nat.div_le_self _ _
  have e2 : (k : Int) / 2 ^ n = ((k / 2 ^ n : Nat) : Int) := by
    rw [Int.natCast_ediv, Int.natCast_pow]
    rfl
  apply Int32.toInt_inj.mp
  rw [e2, zi_in ⟨by omega, by omega⟩]
  show (((zi (k : Int)).toUInt32 >>> m).toBitVec).toInt = _
  have t2 : (((zi (k : Int)).toUInt32 >>> m).toBitVec).toNat = k / 2 ^ n := t
  rw [BitVec.toInt_eq_toNat_of_lt (by rw [t2]; omega), t2]
section GUS
variable {P : Nat → Option gMt} {G : gG} {cn : Nat → Option Nat} {d : Nat} {t : gMt} {pc : Nat} {L : gL} {S : List Value} {h : gH} {F : gR → gL → Prop}
theorem gy_ushc {x y v : Int} {n : Nat} (hlk : glk pc (gmC t) = some (.iushr, 1)) (hx : ¬ pc ∈ gmE t) (ha : 0 ≤ x ∧ x < 2147483648) (hm : ((zi y).toUInt32 &&& Int32.toUInt32 31).toNat = n) (hn : n < 32) (hv : (2 : Int) ^ n = v) (k : gz P G cn d t (pc + 1) L (.int (zi (x / v)) :: S) h F) : gz P G cn d t pc L (.int (zi y) :: .int (zi x) :: S) h F := by
  subst hv
  refine gz_0 hlk (fun q => q.elim (fun z => by cases z) hx) rfl ?_ k
  simp only [gst0, gII]
  rw [if_pos trivial, zi_ush ha.1 ha.2 hm hn]
end GUS
/-- the first n places of a row grow; each is below s -/
def gInc (u : Nat → Int) (n s : Int) : Prop := (∀ i : Nat, (i : Int) < n → (i : Int) ≤ u i ∧ u i < s) ∧ ∀ i j : Nat, i < j → (j : Int) < n → u i < u j
theorem gInc.zero {u : Nat → Int} {s : Int} : gInc u 0 s := ⟨fun i hi => absurd hi (by omega), fun i j _ hj => absurd hj (by omega)⟩
theorem gInc.wd {u : Nat → Int} {n s s2 : Int} (h : s ≤ s2) (p : gInc u n s) : gInc u n s2 := ⟨fun i hi => ⟨(p.1 i hi).1, by have := (p.1 i hi).2; omega⟩, p.2⟩
theorem gInc.put {u : Nat → Int} {n s : Int} (h0 : 0 ≤ n) (h1 : n ≤ s) (p : gInc u n s) : gInc (gfu u n.toNat s) (n + 1) (s + 1) := by
  refine ⟨fun i hi => ?_, fun i j hij hj => ?_⟩
  · by_cases e : i = n.toNat
    · rw [e, gfu_eq]
      omega
    · rw [gfu_ne e]
      have := p.1 i (by omega)
      omega
  · have e : i ≠ n.toNat := by omega
    rw [gfu_ne e]
    by_cases e2 : j = n.toNat
    · rw [e2, gfu_eq]
      exact (p.1 i (by omega)).2
    · rw [gfu_ne e2]
      exact p.2 i j hij (by omega)
def gBd (u : Nat → Int) (n i B : Int) : Prop := ∀ j : Nat, i ≤ (j : Int) → (j : Int) < n → B ≤ u j
theorem gBd.zero {u : Nat → Int} {n s : Int} (p : gInc u n s) : gBd u n 0 0 := fun j _ hj => by
  have := (p.1 j hj).1
  omega
theorem gBd.step {u : Nat → Int} {n s i z : Int} (p : gInc u n s) (h0 : 0 ≤ i) (e : u i.toNat = z) : gBd u n (i + 1) (z + 1) := fun j h1 h2 => by
  have := p.2 i.toNat j (by omega) h2
  omega
theorem gBd.at {u : Nat → Int} {n i B z : Int} (p : gBd u n i B) (h0 : 0 ≤ i) (h1 : i < n) (e : u i.toNat = z) : B ≤ z := by
  have := p i.toNat (by omega) (by omega)
  omega
/-- the first s places are at most v -/
def gLv (ty : Nat → Nat) (q : Nat) (s v : Int) (h : gH) : Prop := (∀ k, gpl rT q k = 1000 * q + 999) ∧ ∀ i : Int, 0 ≤ i → i < s → gEl ty q i 0 v h
theorem gLv.fr {ty : Nat → Nat} {q : Nat} {s v : Int} {h h' : gH} {l : List Nat} (g : gFr rT ty l h h') (hl : ¬ (1000 * q + 999) ∈ l) (p : gLv ty q s v h) : gLv ty q s v h' := ⟨p.1, fun i h0 h1 => gEl.fr g hl p.1 (p.2 i h0 h1)⟩
theorem gLv.pt {ty : Nat → Nat} {q c k q2 : Nat} {s v : Int} {h h' : gH} (f : ∀ x j, ¬ (x = c ∧ j = k) → h'.2.2.2.2 x j = h.2.2.2.2 x j) (ht : ty c = q2) (hq : q2 ≠ q) (p : gLv ty q s v h) : gLv ty q s v h' := ⟨p.1, fun i h0 h1 => gEl.pt f ht hq (p.2 i h0 h1)⟩
theorem gLv.zero {ty : Nat → Nat} {q : Nat} {v : Int} {h : gH} (hp : ∀ k, gpl rT q k = 1000 * q + 999) : gLv ty q 0 v h := ⟨hp, fun i h0 h1 => absurd h1 (by omega)⟩
theorem gLv.step {ty : Nat → Nat} {q c : Nat} {s v z : Int} {h h' : gH} (uq : gUq ty) (ht : ty c = q) (hq : 1 ≤ q ∧ q < 100) (f : ∀ x n, ¬ (x = c ∧ n = s.toNat) → h'.2.2.2.2 x n = h.2.2.2.2 x n) (e : h'.2.2.2.2 c s.toNat = .int (zi z)) (h0 : 0 ≤ s) (hz : 0 ≤ z ∧ z ≤ v ∧ v ≤ 1000) (p : gLv ty q s v h) : gLv ty q (s + 1) v h' := ⟨p.1, fun i h1 h2 => by
  by_cases hi : i = s
  · rw [hi]
    exact (gEl.set uq ht hq e (by omega) (by omega)).wd (by omega) (by omega)
  · exact gEl.ot f (p.2 i h1 (by omega)) (by omega)⟩
/-- all places are at most v + 1, those from B on at most v -/
def gLj (ty : Nat → Nat) (q : Nat) (B v : Int) (h : gH) : Prop := (∀ k, gpl rT q k = 1000 * q + 999) ∧ (∀ i : Int, 0 ≤ i → i < 257 → gEl ty q i 0 (v + 1) h) ∧ ∀ i : Int, B ≤ i → 0 ≤ i → i < 257 → gEl ty q i 0 v h
theorem gLj.fr {ty : Nat → Nat} {q : Nat} {B v : Int} {h h' : gH} {l : List Nat} (g : gFr rT ty l h h') (hl : ¬ (1000 * q + 999) ∈ l) (p : gLj ty q B v h) : gLj ty q B v h' := ⟨p.1, fun i h0 h1 => gEl.fr g hl p.1 (p.2.1 i h0 h1), fun i h0 h1 h2 => gEl.fr g hl p.1 (p.2.2 i h0 h1 h2)⟩
theorem gLj.pt {ty : Nat → Nat} {q c k q2 : Nat} {B v : Int} {h h' : gH} (f : ∀ x j, ¬ (x = c ∧ j = k) → h'.2.2.2.2 x j = h.2.2.2.2 x j) (ht : ty c = q2) (hq : q2 ≠ q) (p : gLj ty q B v h) : gLj ty q B v h' := ⟨p.1, fun i h0 h1 => gEl.pt f ht hq (p.2.1 i h0 h1), fun i h0 h1 h2 => gEl.pt f ht hq (p.2.2 i h0 h1 h2)⟩
theorem gLj.of {ty : Nat → Nat} {q : Nat} {v : Int} {h : gH} (p : gLv ty q 257 v h) : gLj ty q 0 v h := ⟨p.1, fun i h0 h1 => (p.2 i h0 h1).wd (by omega) (by omega), fun i _ h1 h2 => p.2 i h1 h2⟩
theorem gLj.all {ty : Nat → Nat} {q : Nat} {B v : Int} {h : gH} (p : gLj ty q B v h) : gLv ty q 257 (v + 1) h := ⟨p.1, p.2.1⟩
theorem gLj.up {ty : Nat → Nat} {q : Nat} {B B2 v : Int} {h : gH} (hB : B ≤ B2) (p : gLj ty q B v h) : gLj ty q B2 v h := ⟨p.1, p.2.1, fun i h0 h1 h2 => p.2.2 i (by omega) h1 h2⟩
theorem gLj.step {ty : Nat → Nat} {q c : Nat} {B s v z : Int} {h h' : gH} (uq : gUq ty) (ht : ty c = q) (hq : 1 ≤ q ∧ q < 100) (f : ∀ x n, ¬ (x = c ∧ n = s.toNat) → h'.2.2.2.2 x n = h.2.2.2.2 x n) (e : h'.2.2.2.2 c s.toNat = .int (zi z)) (h0 : 0 ≤ s) (hB : B ≤ s) (hz : 0 ≤ z ∧ z ≤ v + 1 ∧ v ≤ 1000) (p : gLj ty q B v h) : gLj ty q (s + 1) v h' := by
  refine ⟨p.1, fun i h1 h2 => ?_, fun i h1 h2 h3 => ?_⟩
  · by_cases hi : i = s
    · rw [hi]
      exact (gEl.set uq ht hq e (by omega) (by omega)).wd (by omega) (by omega)
    · exact gEl.ot f (p.2.1 i h1 h2) (by omega)
  · exact gEl.ot f (p.2.2 i (by omega) h2 h3) (by omega)
theorem gF_up {f : Nat → Int} {off bits s t : Int} (h : s ≤ t) : gF f off bits s ≤ gF f off bits t := by
  unfold gF
  have key : ∀ n, gsf (fun j => if f (off.toNat + j) < bits ∨ (f (off.toNat + j) = bits ∧ (j : Int) < s) then (1 : Int) else 0) n ≤ gsf (fun j => if f (off.toNat + j) < bits ∨ (f (off.toNat + j) = bits ∧ (j : Int) < t) then (1 : Int) else 0) n := by
    intro n
    induction n with
    | zero => exact Int.le_refl _
    | succ n ih =>
      show gsf _ n + _ ≤ gsf _ n + _
      have h1 : (if f (off.toNat + n) < bits ∨ (f (off.toNat + n) = bits ∧ (n : Int) < s) then (1 : Int) else 0) ≤ (if f (off.toNat + n) < bits ∨ (f (off.toNat + n) = bits ∧ (n : Int) < t) then (1 : Int) else 0) := by
        by_cases c1 : f (off.toNat + n) < bits ∨ (f (off.toNat + n) = bits ∧ (n : Int) < s)
        · rw [if_pos c1, if_pos (c1.elim Or.inl (fun w => Or.inr ⟨w.1, by omega⟩))]
          exact Int.le_refl _
        · rw [if_neg c1]
          split <;> decide
      exact Int.add_le_add ih h1
  exact key 256
/-- lengths by the order of the row of used ones -/
def gcf (u f : Nat → Int) : Nat → Int := fun i => if u i < 256 then f (u i).toNat else 99
theorem gcf_at {u f : Nat → Int} {i s z : Int} (h0 : 0 ≤ i) (e : u i.toNat = s) (hs : s < 256) (e2 : f s.toNat = z) : gcf u f (0 + i).toNat = z := by
  unfold gcf
  rw [Int.zero_add, e, if_pos hs]
  exact e2
theorem gcf_no {u f : Nat → Int} {i s : Int} (h0 : 0 ≤ i) (e : u i.toNat = s) (hs : ¬ s < 256) : gcf u f (0 + i).toNat = 99 := by
  unfold gcf
  rw [Int.zero_add, e, if_neg hs]
/-- the first k places of a row are v -/
def gOy (ty : Nat → Nat) (q : Nat) (v k : Int) (h : gH) : Prop := ∃ f : Nat → Int, gRow ty q f h ∧ ∀ j, j < k.toNat → f j = v
theorem gOy.fr {ty : Nat → Nat} {q : Nat} {v k : Int} {h h' : gH} {l : List Nat} (g : gFr rT ty l h h') (hl : ¬ (1000 * q + 999) ∈ l) (s : gOy ty q v k h) : gOy ty q v k h' := by
  obtain ⟨f, x1, x2⟩ := s
  exact ⟨f, x1.fr g hl, x2⟩
theorem gOy.pt {ty : Nat → Nat} {q : Nat} {v k : Int} {c9 j9 q2 : Nat} {h h' : gH} (g : ∀ x n, ¬ (x = c9 ∧ n = j9) → h'.2.2.2.2 x n = h.2.2.2.2 x n) (ht : ty c9 = q2) (hq : q2 ≠ q) (s : gOy ty q v k h) : gOy ty q v k h' := by
  obtain ⟨f, x1, x2⟩ := s
  exact ⟨f, x1.pt g ht hq, x2⟩
theorem gOy.step {ty : Nat → Nat} {q : Nat} {f : Nat → Int} {v k : Int} {h : gH} (h0 : 0 ≤ k) (x1 : gRow ty q (gfu f k.toNat v) h) (x2 : ∀ j, j < k.toNat → f j = v) : gOy ty q v (k + 1) h := ⟨_, x1, fun j hj => by
  by_cases e : j = k.toNat
  · rw [e, gfu_eq]
  · rw [gfu_ne e]; exact x2 j (by omega)⟩
/-- scans that are told, in the landed text -/
def gTc (ty : Nat → Nat) (n : Int) (h : gH) : Prop := ∃ f t c : Nat → Int, gRow ty 60 f h ∧ gRow ty 61 t h ∧ gRow ty 64 c h ∧ (∀ j, j < n.toNat → f j ≤ t j) ∧ gTl f t n + gsf (fun j => gcr (c j)) 64 ≤ 256
theorem gTc.fr {ty : Nat → Nat} {n : Int} {h h' : gH} {l : List Nat} (g : gFr rT ty l h h') (hl : ∀ x ∈ ([60999, 61999, 64999] : List Nat), ¬ x ∈ l) (s : gTc ty n h) : gTc ty n h' := by
  obtain ⟨f, t, c, x1, x2, x3, x4⟩ := s
  exact ⟨f, t, c, x1.fr g (hl _ (by decide)), x2.fr g (hl _ (by decide)), x3.fr g (hl _ (by decide)), x4⟩
theorem gTc.pt {ty : Nat → Nat} {n : Int} {c9 j9 q2 : Nat} {h h' : gH} (g : ∀ x n, ¬ (x = c9 ∧ n = j9) → h'.2.2.2.2 x n = h.2.2.2.2 x n) (ht : ty c9 = q2) (hq : ∀ x ∈ ([60, 61, 64] : List Nat), q2 ≠ x) (s : gTc ty n h) : gTc ty n h' := by
  obtain ⟨f, t, c, x1, x2, x3, x4⟩ := s
  exact ⟨f, t, c, x1.pt g ht (hq _ (by decide)), x2.pt g ht (hq _ (by decide)), x3.pt g ht (hq _ (by decide)), x4⟩
theorem gTc.gr {nk X l : List Nat} {ty ty2 : Nat → Nat} {n : Int} {h h2 : gH} (g : gSg nk X l ty h ty2 h2) (hJ : gJ rT 1027 ty h) (hn : ∀ x ∈ ([60, 61, 64] : List Nat), ¬ x ∈ nk) (hl : ∀ x ∈ ([60999, 61999, 64999] : List Nat), ¬ x ∈ l) (s : gTc ty n h) : gTc ty2 n h2 := by
  obtain ⟨f, t, c, x1, x2, x3, x4⟩ := s
  exact ⟨f, t, c, x1.gr g hJ rfl (hn _ (by decide)) (hl _ (by decide)), x2.gr g hJ rfl (hn _ (by decide)) (hl _ (by decide)), x3.gr g hJ rfl (hn _ (by decide)) (hl _ (by decide)), x4⟩
def gCr (ty : Nat → Nat) (cf : Nat → Int) (a k v : Int) (h : gH) : Prop := ∃ c2 : Nat → Int, gRow ty 64 c2 h ∧ gCm cf c2 a k v
theorem gCr.fr {ty : Nat → Nat} {cf : Nat → Int} {a k v : Int} {h h' : gH} {l : List Nat} (g : gFr rT ty l h h') (hl : ∀ x ∈ ([64999] : List Nat), ¬ x ∈ l) (s : gCr ty cf a k v h) : gCr ty cf a k v h' := by
  obtain ⟨c, x1, x2⟩ := s
  exact ⟨c, x1.fr g (hl _ (by decide)), x2⟩
theorem gCr.pt {ty : Nat → Nat} {cf : Nat → Int} {a k v : Int} {c9 j9 q2 : Nat} {h h' : gH} (g : ∀ x n, ¬ (x = c9 ∧ n = j9) → h'.2.2.2.2 x n = h.2.2.2.2 x n) (ht : ty c9 = q2) (hq : ∀ x ∈ ([64] : List Nat), q2 ≠ x) (s : gCr ty cf a k v h) : gCr ty cf a k v h' := by
  obtain ⟨c, x1, x2⟩ := s
  exact ⟨c, x1.pt g ht (hq _ (by decide)), x2⟩
theorem gTc.tell {ty : Nat → Nat} {f t c c2 : Nat → Int} {n a b k v : Int} {h : gH} (h0 : 0 ≤ n) (x1 : gRow ty 60 (gfu f n.toNat a) h) (x2 : gRow ty 61 (gfu t n.toNat b) h) (x3 : gRow ty 64 c2 h) (x4 : ∀ j, j < n.toNat → f j ≤ t j) (x5 : gTl f t n + gsf (fun j => gcr (c j)) 64 ≤ 256) (x6 : gCm c c2 a k v) (hk : k = b + 1) (hab : a ≤ b) : gTc ty (n + 1) h := by
  refine ⟨_, _, _, x1, x2, x3, fun j hj => ?_, ?_⟩
  · by_cases e : j = n.toNat
    · rw [e, gfu_eq, gfu_eq]; exact hab
    · rw [gfu_ne e, gfu_ne e]; exact x4 j (by omega)
  · rw [gTl_st (a := a) (b := b) h0 gfu_eq gfu_eq]
    have e1 : gTl (gfu f n.toNat a) (gfu t n.toNat b) n = gTl f t n := gsf_cg (fun j hj => by rw [gfu_ne (by omega), gfu_ne (by omega)])
    have := x6.1
    rw [e1]
    omega
theorem gTc.anew {ty : Nat → Nat} {f t : Nat → Int} {h : gH} (x1 : gRow ty 60 f h) (x2 : gRow ty 61 t h) (s : gOy ty 64 (-1) 64 h) : gTc ty 0 h := by
  obtain ⟨c, y1, y2⟩ := s
  refine ⟨f, t, c, x1, x2, y1, fun j hj => absurd hj (by omega), ?_⟩
  have e : gsf (fun j => gcr (c j)) 64 = gsf (fun _ => 4) 64 := gsf_cg (fun j hj => by rw [y2 j hj]; rfl)
  have e2 : gsf (fun _ => (4 : Int)) 64 = 256 := by decide
  rw [e, e2]
  show (0 : Int) + 256 ≤ 256
  decide
