/-! ===== the symbols that come, in order ===== -/
def eUs (w0 u : Nat → Int) (n : Int) : Prop := (∀ i : Nat, (i : Int) < n → (i : Int) ≤ u i ∧ u i < 257) ∧ (∀ i j : Nat, i < j → (j : Int) < n → u i < u j) ∧ (∀ x : Nat, x < 257 → (0 < w0 x ↔ ∃ i : Nat, (i : Int) < n ∧ u i = (x : Int))) ∧ n = eac w0
/-- while they are found: up to s -/
def eUf (w0 u : Nat → Int) (n s : Int) : Prop := (∀ i : Nat, (i : Int) < n → (i : Int) ≤ u i ∧ u i < s) ∧ (∀ i j : Nat, i < j → (j : Int) < n → u i < u j) ∧ (∀ x : Nat, (x : Int) < s → (0 < w0 x ↔ ∃ i : Nat, (i : Int) < n ∧ u i = (x : Int))) ∧ n = gsf (fun x => if 0 < w0 x then 1 else 0) s.toNat
theorem eUf.zero {w0 u : Nat → Int} : eUf w0 u 0 0 := ⟨fun i hi => absurd hi (by omega), fun i j _ hj => absurd hj (by omega), fun x hx => absurd hx (by omega), rfl⟩
theorem eUf.put {w0 u : Nat → Int} {n s : Int} (h0 : 0 ≤ n) (h1 : n ≤ s) (hw : 0 < w0 s.toNat) (p : eUf w0 u n s) : eUf w0 (gfu u n.toNat s) (n + 1) (s + 1) := by
  obtain ⟨a, b, c, d⟩ := p
  refine ⟨fun i hi => ?_, fun i j hij hj => ?_, fun x hx => ?_, ?_⟩
  · by_cases e : i = n.toNat
    · rw [e, gfu_eq]
      omega
    · rw [gfu_ne e]
      have := a i (by omega)
      omega
  · have e : i ≠ n.toNat := by omega
    rw [gfu_ne e]
    by_cases e2 : j = n.toNat
    · rw [e2, gfu_eq]
      exact (a i (by omega)).2
    · rw [gfu_ne e2]
      exact b i j hij (by omega)
  · by_cases e : (x : Int) = s
    · refine ⟨fun _ => ⟨n.toNat, by omega, by rw [gfu_eq, e]⟩, fun _ => ?_⟩
      rw [(by omega : x = s.toNat)]
      exact hw
    · rw [c x (by omega)]
      constructor
      · rintro ⟨i, i1, i2⟩
        exact ⟨i, by omega, by rw [gfu_ne (by omega)]; exact i2⟩
      · rintro ⟨i, i1, i2⟩
        by_cases e2 : i = n.toNat
        · rw [e2, gfu_eq] at i2
          omega
        · rw [gfu_ne e2] at i2
          exact ⟨i, by omega, i2⟩
  · rw [(by omega : (s + 1).toNat = s.toNat + 1)]
    show n + 1 = gsf (fun x => if 0 < w0 x then (1 : Int) else 0) s.toNat + (if 0 < w0 s.toNat then 1 else 0)
    rw [if_pos hw]
    omega
theorem eUf.pass {w0 u : Nat → Int} {n s : Int} (h1 : 0 ≤ s) (hw : ¬ 0 < w0 s.toNat) (p : eUf w0 u n s) : eUf w0 u n (s + 1) := by
  obtain ⟨a, b, c, d⟩ := p
  refine ⟨fun i hi => ⟨(a i hi).1, by have := (a i hi).2; omega⟩, b, fun x hx => ?_, ?_⟩
  · by_cases e : (x : Int) = s
    · rw [(by omega : x = s.toNat)]
      refine ⟨fun w => absurd w hw, fun ⟨i, i1, i2⟩ => ?_⟩
      have := (a i i1).2
      omega
    · exact c x (by omega)
  · rw [(by omega : (s + 1).toNat = s.toNat + 1)]
    show n = gsf (fun x => if 0 < w0 x then (1 : Int) else 0) s.toNat + (if 0 < w0 s.toNat then 1 else 0)
    rw [if_neg hw]
    omega
theorem eUf.fin {w0 u : Nat → Int} {n : Int} (p : eUf w0 u n 257) : eUs w0 u n := ⟨p.1, p.2.1, fun x hx => p.2.2.1 x (by omega), p.2.2.2⟩
/-- the next of them -/
def eNx (u : Nat → Int) (n i : Int) : Int := if i < n then u i.toNat else 257
theorem eNx_b {w0 u : Nat → Int} {n i : Int} (p : eUs w0 u n) (h0 : 0 ≤ i) : 0 ≤ eNx u n i ∧ eNx u n i ≤ 257 := by
  unfold eNx
  split
  · have := p.1 i.toNat (by omega)
    omega
  · omega
theorem eNx_at {u : Nat → Int} {n i z : Int} (h : i < n) (e : u i.toNat = z) : eNx u n i = z := by
  unfold eNx
  rw [if_pos h]
  exact e
theorem eNx_gap {w0 u : Nat → Int} {n i : Int} (p : eUs w0 u n) (h0 : 0 ≤ i) (h1 : i < n) : eNx u n i + 1 ≤ eNx u n (i + 1) ∧ ∀ x : Nat, eNx u n i < x → (x : Int) < eNx u n (i + 1) → ¬ 0 < w0 x := by
  obtain ⟨a, b, c, d⟩ := p
  unfold eNx
  rw [if_pos h1]
  have ai := a i.toNat (by omega)
  by_cases h2 : i + 1 < n
  · rw [if_pos h2]
    have b1 := b i.toNat (i + 1).toNat (by omega) (by omega)
    have a1 := a (i + 1).toNat (by omega)
    refine ⟨by omega, fun x x1 x2 w => ?_⟩
    obtain ⟨j, j1, j2⟩ := (c x (by omega)).mp w
    by_cases e1 : j ≤ i.toNat
    · by_cases e2 : j = i.toNat
      · rw [e2] at j2
        omega
      · have := b j i.toNat (by omega) (by omega)
        omega
    · by_cases e2 : j = (i + 1).toNat
      · rw [e2] at j2
        omega
      · have := b (i + 1).toNat j (by omega) j1
        omega
  · rw [if_neg h2]
    refine ⟨by omega, fun x x1 x2 w => ?_⟩
    obtain ⟨j, j1, j2⟩ := (c x (by omega)).mp w
    by_cases e2 : j = i.toNat
    · rw [e2] at j2
      omega
    · have := b j i.toNat (by omega) (by omega)
      omega
theorem eNx_0 {w0 u : Nat → Int} {n : Int} (p : eUs w0 u n) : ∀ x : Nat, (x : Int) < eNx u n 0 → ¬ 0 < w0 x := by
  obtain ⟨a, b, c, d⟩ := p
  intro x hx w
  unfold eNx at hx
  by_cases h : (0 : Int) < n
  · rw [if_pos h] at hx
    have a0 := a (0 : Int).toNat (by omega)
    obtain ⟨j, j1, j2⟩ := (c x (by omega)).mp w
    by_cases e : j = (0 : Int).toNat
    · rw [e] at j2
      omega
    · have := b (0 : Int).toNat j (by omega) j1
      omega
  · rw [if_neg h] at hx
    obtain ⟨j, j1, j2⟩ := (c x (by omega)).mp w
    omega
theorem eNx_n {u : Nat → Int} {n i : Int} (h : ¬ i < n) : eNx u n i = 257 := if_neg h
theorem eNx_w {w0 u : Nat → Int} {n i z : Int} (p : eUs w0 u n) (h0 : 0 ≤ i) (h1 : i < n) (e : u i.toNat = z) : 0 < w0 z.toNat ∧ 0 ≤ z ∧ z < 257 := by
  have a := p.1 i.toNat (by omega)
  refine ⟨?_, by omega, by omega⟩
  exact (p.2.2.1 z.toNat (by omega)).mpr ⟨i.toNat, by omega, by omega⟩
/-! the least group -/
theorem ehL_up {w : Nat → Int} {ex : Int} {a : Nat} : ∀ {b : Nat}, a ≤ b → (∀ x, a ≤ x → x < b → ¬ 0 < w x) → ehL w ex b = ehL w ex a
  | 0, h, _ => by rw [(by omega : a = 0)]
  | b + 1, h, n => by
    by_cases c : a = b + 1
    · rw [c]
    · show (if (0 < w b ∧ ¬ (b : Int) = ex) ∧ (ehL w ex b < 0 ∨ w b ≤ w (ehL w ex b).toNat) then (b : Int) else ehL w ex b) = _
      rw [if_neg (fun q => n b (by omega) (by omega) q.1.1), ehL_up (b := b) (by omega) (fun x h1 h2 => n x h1 (by omega))]
theorem eLg_st {w0 w u : Nat → Int} {n i z e ls : Int} (p : eUs w0 u n) (hw : ∀ j9 : Nat, j9 < 257 → 0 < w j9 → 0 < w0 j9) (h0 : 0 ≤ i) (h1 : i < n) (eu : u i.toNat = z) (hl : ls = ehL w e (eNx u n i).toNat) : ehL w e (eNx u n (i + 1)).toNat = if (0 < w z.toNat ∧ ¬ z = e) ∧ (ls < 0 ∨ w z.toNat ≤ w ls.toNat) then z else ls := by
  have ez := eNx_at h1 eu
  obtain ⟨_, z0, z1⟩ := eNx_w p h0 h1 eu
  obtain ⟨g1, g2⟩ := eNx_gap p h0 h1
  have b1 := eNx_b (i := i + 1) p (by omega)
  rw [ehL_up (a := z.toNat + 1) (b := (eNx u n (i + 1)).toNat) (by omega) (fun x x1 x2 w9 => g2 x (by omega) (by omega) (hw x (by omega) w9)), hl, ez]
  show (if (0 < w z.toNat ∧ ¬ ((z.toNat : Nat) : Int) = e) ∧ (ehL w e z.toNat < 0 ∨ w z.toNat ≤ w (ehL w e z.toNat).toNat) then ((z.toNat : Nat) : Int) else ehL w e z.toNat) = _
  rw [(by omega : ((z.toNat : Nat) : Int) = z)]
theorem eLg_0 {w0 w u : Nat → Int} {n e : Int} (p : eUs w0 u n) (hw : ∀ x : Nat, x < 257 → 0 < w x → 0 < w0 x) : ehL w e (eNx u n 0).toNat = -1 := by
  have b1 := eNx_b (i := 0) p (by omega)
  exact ehL_up (a := 0) (b := (eNx u n 0).toNat) (by omega) (fun x _ x2 w9 => eNx_0 p x (by omega) (hw x (by omega) w9))
/-! groups that are joined -/
def eJg (a b : Int) (g : Nat → Int) (B : Int) : Nat → Int := fun x => if (x : Int) < B ∧ (g x = a ∨ g x = b) then (if a ≤ b then b else a) else g x
def eJl (a b : Int) (g l : Nat → Int) (B : Int) : Nat → Int := fun x => if (x : Int) < B ∧ (g x = a ∨ g x = b) then l x + 1 else l x
theorem eJg_at {a b : Int} {g : Nat → Int} {B z : Int} (h : B ≤ z) (h0 : 0 ≤ z) : eJg a b g B z.toNat = g z.toNat := if_neg (fun w => by omega)
theorem eJl_at {a b : Int} {g l : Nat → Int} {B z : Int} (h : B ≤ z) (h0 : 0 ≤ z) : eJl a b g l B z.toNat = l z.toNat := if_neg (fun w => by omega)
theorem eJg_y {a b c : Int} {g w0 : Nat → Int} {u : Nat → Int} {n i z : Int} (p : eUs w0 u n) (hu : ∀ x : Nat, x < 257 → ¬ 0 < w0 x → ¬ (g x = a ∨ g x = b)) (h0 : 0 ≤ i) (h1 : i < n) (eu : u i.toNat = z) (hc : c = if a ≤ b then b else a) (hg : g z.toNat = a ∨ g z.toNat = b) : ∀ x : Nat, x < 257 → gfu (eJg a b g (eNx u n i)) z.toNat c x = eJg a b g (eNx u n (i + 1)) x := by
  intro x hx
  have ez := eNx_at h1 eu
  obtain ⟨_, z0, z1⟩ := eNx_w p h0 h1 eu
  obtain ⟨g1, g2⟩ := eNx_gap p h0 h1
  by_cases e : x = z.toNat
  · rw [e, gfu_eq]
    unfold eJg
    rw [if_pos ⟨by omega, hg⟩]
    exact hc
  · rw [gfu_ne e]
    unfold eJg
    by_cases c1 : (x : Int) < eNx u n i
    · by_cases c2 : g x = a ∨ g x = b
      · rw [if_pos ⟨c1, c2⟩, if_pos (show (x : Int) < eNx u n (i + 1) ∧ (g x = a ∨ g x = b) from ⟨by omega, c2⟩)]
      · rw [if_neg (fun w => c2 w.2), if_neg (fun w => c2 w.2)]
    · rw [if_neg (fun w => c1 w.1), if_neg (fun w => hu x hx (g2 x (by omega) w.1) w.2)]
theorem eJg_n {a b : Int} {g w0 : Nat → Int} {u : Nat → Int} {n i z : Int} (p : eUs w0 u n) (hu : ∀ x : Nat, x < 257 → ¬ 0 < w0 x → ¬ (g x = a ∨ g x = b)) (h0 : 0 ≤ i) (h1 : i < n) (eu : u i.toNat = z) (hg : ¬ (g z.toNat = a ∨ g z.toNat = b)) : ∀ x : Nat, x < 257 → eJg a b g (eNx u n i) x = eJg a b g (eNx u n (i + 1)) x := by
  intro x hx
  have ez := eNx_at h1 eu
  obtain ⟨_, z0, z1⟩ := eNx_w p h0 h1 eu
  obtain ⟨g1, g2⟩ := eNx_gap p h0 h1
  unfold eJg
  by_cases c1 : (x : Int) < eNx u n i
  · by_cases c2 : g x = a ∨ g x = b
    · rw [if_pos ⟨c1, c2⟩, if_pos (show (x : Int) < eNx u n (i + 1) ∧ (g x = a ∨ g x = b) from ⟨by omega, c2⟩)]
    · rw [if_neg (fun w => c2 w.2), if_neg (fun w => c2 w.2)]
  · rw [if_neg (fun w => c1 w.1), if_neg]
    intro w
    by_cases e : x = z.toNat
    · rw [e] at w
      exact hg w.2
    · exact hu x hx (g2 x (by omega) w.1) w.2
theorem eJl_y {a b c : Int} {g l w0 : Nat → Int} {u : Nat → Int} {n i z : Int} (p : eUs w0 u n) (hu : ∀ x : Nat, x < 257 → ¬ 0 < w0 x → ¬ (g x = a ∨ g x = b)) (h0 : 0 ≤ i) (h1 : i < n) (eu : u i.toNat = z) (hc : c = l z.toNat + 1) (hg : g z.toNat = a ∨ g z.toNat = b) : ∀ x : Nat, x < 257 → gfu (eJl a b g l (eNx u n i)) z.toNat c x = eJl a b g l (eNx u n (i + 1)) x := by
  intro x hx
  have ez := eNx_at h1 eu
  obtain ⟨_, z0, z1⟩ := eNx_w p h0 h1 eu
  obtain ⟨g1, g2⟩ := eNx_gap p h0 h1
  by_cases e : x = z.toNat
  · rw [e, gfu_eq]
    unfold eJl
    rw [if_pos ⟨by omega, hg⟩]
    exact hc
  · rw [gfu_ne e]
    unfold eJl
    by_cases c1 : (x : Int) < eNx u n i
    · by_cases c2 : g x = a ∨ g x = b
      · rw [if_pos ⟨c1, c2⟩, if_pos (show (x : Int) < eNx u n (i + 1) ∧ (g x = a ∨ g x = b) from ⟨by omega, c2⟩)]
      · rw [if_neg (fun w => c2 w.2), if_neg (fun w => c2 w.2)]
    · rw [if_neg (fun w => c1 w.1), if_neg (fun w => hu x hx (g2 x (by omega) w.1) w.2)]
theorem eJl_n {a b : Int} {g l w0 : Nat → Int} {u : Nat → Int} {n i z : Int} (p : eUs w0 u n) (hu : ∀ x : Nat, x < 257 → ¬ 0 < w0 x → ¬ (g x = a ∨ g x = b)) (h0 : 0 ≤ i) (h1 : i < n) (eu : u i.toNat = z) (hg : ¬ (g z.toNat = a ∨ g z.toNat = b)) : ∀ x : Nat, x < 257 → eJl a b g l (eNx u n i) x = eJl a b g l (eNx u n (i + 1)) x := by
  intro x hx
  have ez := eNx_at h1 eu
  obtain ⟨_, z0, z1⟩ := eNx_w p h0 h1 eu
  obtain ⟨g1, g2⟩ := eNx_gap p h0 h1
  unfold eJl
  by_cases c1 : (x : Int) < eNx u n i
  · by_cases c2 : g x = a ∨ g x = b
    · rw [if_pos ⟨c1, c2⟩, if_pos (show (x : Int) < eNx u n (i + 1) ∧ (g x = a ∨ g x = b) from ⟨by omega, c2⟩)]
    · rw [if_neg (fun w => c2 w.2), if_neg (fun w => c2 w.2)]
  · rw [if_neg (fun w => c1 w.1), if_neg]
    intro w
    by_cases e : x = z.toNat
    · rw [e] at w
      exact hg w.2
    · exact hu x hx (g2 x (by omega) w.1) w.2
theorem eJ_0 {a b : Int} {g l w0 u : Nat → Int} {n : Int} (p : eUs w0 u n) (hu : ∀ x : Nat, x < 257 → ¬ 0 < w0 x → ¬ (g x = a ∨ g x = b)) : (∀ x : Nat, x < 257 → g x = eJg a b g (eNx u n 0) x) ∧ (∀ x : Nat, x < 257 → l x = eJl a b g l (eNx u n 0) x) := by
  refine ⟨fun x hx => ?_, fun x hx => ?_⟩
  · exact (if_neg (fun w => hu x hx (eNx_0 p x w.1) w.2)).symm
  · exact (if_neg (fun w => hu x hx (eNx_0 p x w.1) w.2)).symm
theorem eJ_fin {a b : Int} {g l w : Nat → Int} {B : Int} (ha : 0 ≤ a) (hb : 0 ≤ b) (hB : B = 257) : (∀ x : Nat, x < 257 → eJg a b g B x = (ehJ a.toNat b.toNat (w, g, l)).2.1 x) ∧ (∀ x : Nat, x < 257 → eJl a b g l B x = (ehJ a.toNat b.toNat (w, g, l)).2.2 x) := by
  have ea : ((a.toNat : Nat) : Int) = a := by omega
  have eb : ((b.toNat : Nat) : Int) = b := by omega
  have em : ((ehm a.toNat b.toNat : Nat) : Int) = if a ≤ b then b else a := by
    unfold ehm
    by_cases c : a ≤ b
    · rw [if_pos c, if_pos (by omega)]
      exact eb
    · rw [if_neg c, if_neg (by omega)]
      exact ea
  refine ⟨fun x hx => ?_, fun x hx => ?_⟩
  · rw [ehJ_g]
    show (if (x : Int) < B ∧ (g x = a ∨ g x = b) then (if a ≤ b then b else a) else g x) = if g x = ((a.toNat : Nat) : Int) ∨ g x = ((b.toNat : Nat) : Int) then ((ehm a.toNat b.toNat : Nat) : Int) else g x
    rw [ea, eb, em]
    by_cases c : g x = a ∨ g x = b
    · rw [if_pos ⟨by omega, c⟩, if_pos c]
    · rw [if_neg (fun w => c w.2), if_neg c]
  · rw [ehJ_l]
    show (if (x : Int) < B ∧ (g x = a ∨ g x = b) then l x + 1 else l x) = if g x = ((a.toNat : Nat) : Int) ∨ g x = ((b.toNat : Nat) : Int) then l x + 1 else l x
    rw [ea, eb]
    by_cases c : g x = a ∨ g x = b
    · rw [if_pos ⟨by omega, c⟩, if_pos c]
    · rw [if_neg (fun w => c w.2), if_neg c]
theorem eJ_w {a b c s : Int} {g l w : Nat → Int} (ha : 0 ≤ a) (hb : 0 ≤ b) (hab : ¬ a = b) (hc : c = if a ≤ b then b else a) (hs : s = w a.toNat + w b.toNat) : ∀ x : Nat, x < 257 → gfu (gfu (gfu w a.toNat 0) b.toNat 0) c.toNat s x = (ehJ a.toNat b.toNat (w, g, l)).1 x := by
  intro x hx
  rw [ehJ_w]
  show _ = if x = ehm a.toNat b.toNat then w a.toNat + w b.toNat else if x = a.toNat ∨ x = b.toNat then 0 else w x
  have em : c.toNat = ehm a.toNat b.toNat := by
    rw [hc]
    unfold ehm
    by_cases c : a ≤ b
    · rw [if_pos c, if_pos (by omega)]
    · rw [if_neg c, if_neg (by omega)]
  rw [em]
  by_cases c1 : x = ehm a.toNat b.toNat
  · rw [if_pos c1, c1, gfu_eq, hs]
  · rw [if_neg c1, gfu_ne c1]
    by_cases c2 : x = b.toNat
    · rw [if_pos (Or.inr c2), c2, gfu_eq]
    · rw [gfu_ne c2]
      by_cases c3 : x = a.toNat
      · rw [if_pos (Or.inl c3), c3, gfu_eq]
      · rw [if_neg (fun q => q.elim c3 c2), gfu_ne c3]
/-! codes in order -/
def eNy (u : Nat → Int) (n i : Int) : Int := if eNx u n i < 256 then eNx u n i else 256
def eCt (L c0 : Nat → Int) (ln B : Int) : Nat → Int := fun x => if (x : Int) = ln then ekN L ln B.toNat else if 1 ≤ x ∧ (x : Int) < ln then ekN L (x : Int) 256 else c0 x
def eCd (L d0 : Nat → Int) (ln B : Int) : Nat → Int := fun x => if (0 < L x ∧ x < 256) ∧ (L x < ln ∨ (L x = ln ∧ (x : Int) < B)) then (ekc L x).1 else d0 x
theorem eNy_gap {w0 u L : Nat → Int} {n i z ln : Int} (p : eUs w0 u n) (hL : ∀ x : Nat, x < 257 → ¬ 0 < w0 x → L x = 0) (h0 : 0 ≤ i) (h1 : i < n) (hl : 1 ≤ ln) (eu : u i.toNat = z) : (z < 256 → eNy u n i = z ∧ z + 1 ≤ eNy u n (i + 1)) ∧ (¬ z < 256 → eNy u n i = 256 ∧ eNy u n (i + 1) = 256) ∧ (0 ≤ eNy u n (i + 1) ∧ eNy u n (i + 1) ≤ 256) ∧ ∀ x : Nat, z + 1 ≤ (x : Int) → x < (eNy u n (i + 1)).toNat → ¬ L x = ln := by
  have ez := eNx_at h1 eu
  obtain ⟨_, z0, z1⟩ := eNx_w p h0 h1 eu
  obtain ⟨g1, g2⟩ := eNx_gap p h0 h1
  have b1 := eNx_b (i := i + 1) p (by omega)
  have e1 : eNy u n i = if eNx u n i < 256 then eNx u n i else 256 := rfl
  have e2 : eNy u n (i + 1) = if eNx u n (i + 1) < 256 then eNx u n (i + 1) else 256 := rfl
  refine ⟨fun h => ?_, fun h => ?_, ?_, fun x x1 x2 w => ?_⟩
  · rw [e1, e2, if_pos (by omega)]
    split <;> omega
  · rw [e1, e2, if_neg (by omega), if_neg (by omega)]
    exact ⟨rfl, rfl⟩
  · rw [e2]
    split <;> omega
  · have x3 : (x : Int) < eNx u n (i + 1) := by
      rw [e2] at x2
      split at x2 <;> omega
    have := hL x (by omega) (g2 x (by omega) x3)
    omega
theorem eNy_0 {w0 u L : Nat → Int} {n ln : Int} (p : eUs w0 u n) (hL : ∀ x : Nat, x < 257 → ¬ 0 < w0 x → L x = 0) (hl : 1 ≤ ln) : (0 ≤ eNy u n 0 ∧ eNy u n 0 ≤ 256) ∧ ∀ x : Nat, 0 ≤ x → x < (eNy u n 0).toNat → ¬ L x = ln := by
  have b1 := eNx_b (i := 0) p (by omega)
  have e1 : eNy u n 0 = if eNx u n 0 < 256 then eNx u n 0 else 256 := rfl
  refine ⟨by rw [e1]; split <;> omega, fun x _ x2 w => ?_⟩
  have x3 : (x : Int) < eNx u n 0 := by
    rw [e1] at x2
    split at x2 <;> omega
  have := hL x (by omega) (eNx_0 p x x3)
  omega
theorem eNy_n {u : Nat → Int} {n i : Int} (h : ¬ i < n) : eNy u n i = 256 := by
  unfold eNy
  rw [eNx_n h]
  rfl
