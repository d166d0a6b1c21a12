/-! ===== the reference's bytes and rows ===== -/
def eeJ (w0 w1 : Nat → Int) : Nat → Int := fun j => if j < 257 then w0 j else w1 (j - 257)
theorem eeJ_a0 {w0 w1 : Nat → Int} {s : Int} (h0 : 0 ≤ s) (h1 : s < 257) : eeJ w0 w1 (257 * 0 + s).toNat = w0 s.toNat := by
  rw [(by omega : (257 * 0 + s).toNat = s.toNat)]
  exact if_pos (by omega)
theorem eeJ_a1 {w0 w1 : Nat → Int} {s : Int} (h0 : 0 ≤ s) (h1 : s < 257) : eeJ w0 w1 (257 * 1 + s).toNat = w1 s.toNat := by
  rw [(by omega : (257 * 1 + s).toNat = 257 + s.toNat)]
  unfold eeJ
  rw [if_neg (by omega), (by omega : 257 + s.toNat - 257 = s.toNat)]
theorem eeJ_p0 {w0 w1 : Nat → Int} {s v : Int} (h0 : 0 ≤ s) (h1 : s < 257) : gfu (eeJ w0 w1) (257 * 0 + s).toNat v = eeJ (gfu w0 s.toNat v) w1 := by
  rw [(by omega : (257 * 0 + s).toNat = s.toNat)]
  funext j
  unfold eeJ
  by_cases c : j = s.toNat
  · rw [c, gfu_eq, if_pos (by omega), gfu_eq]
  · rw [gfu_ne c]
    split
    · rw [gfu_ne c]
    · rfl
theorem eeJ_p1 {w0 w1 : Nat → Int} {s v : Int} (h0 : 0 ≤ s) (h1 : s < 257) : gfu (eeJ w0 w1) (257 * 1 + s).toNat v = eeJ w0 (gfu w1 s.toNat v) := by
  rw [(by omega : (257 * 1 + s).toNat = 257 + s.toNat)]
  funext j
  unfold eeJ
  by_cases c : j = 257 + s.toNat
  · rw [c, gfu_eq, if_neg (by omega), (by omega : 257 + s.toNat - 257 = s.toNat), gfu_eq]
  · rw [gfu_ne c]
    split
    · rfl
    · rw [gfu_ne (by omega)]
def gSO (ty : Nat → Nat) (s : gWt) (h : gH) : Prop := (∀ k, gpl rT 32 k = 1000 * 32 + 999) ∧ 0 ≤ s.1 ∧ ∀ j : Nat, (j : Int) < s.1 → (0 ≤ s.2.2.2 j ∧ s.2.2.2 j < 256) ∧ ∀ c, ty c = 32 → h.2.2.2.2 c j = .int (zi (s.2.2.2 j))
theorem gSO.fr {ty : Nat → Nat} {s : gWt} {h h' : gH} {l : List Nat} (g : gFr rT ty l h h') (hl : ∀ x ∈ ([1000 * 32 + 999] : List Nat), ¬ x ∈ l) (p : gSO ty s h) : gSO ty s h' := ⟨p.1, p.2.1, fun j hj => ⟨(p.2.2 j hj).1, fun c hc => (g.2.2.2.2 c j (by rw [hc, p.1]; exact hl _ (List.mem_singleton.mpr rfl))).trans ((p.2.2 j hj).2 c hc)⟩⟩
theorem gSO.pt {ty : Nat → Nat} {c9 k q2 : Nat} {s : gWt} {h h' : gH} (f : ∀ x j, ¬ (x = c9 ∧ j = k) → h'.2.2.2.2 x j = h.2.2.2.2 x j) (ht : ty c9 = q2) (hq : ∀ x ∈ ([32] : List Nat), q2 ≠ x) (p : gSO ty s h) : gSO ty s h' := ⟨p.1, p.2.1, fun j hj => ⟨(p.2.2 j hj).1, fun c hc => (f c j (fun w => hq 32 (List.mem_singleton.mpr rfl) (by rw [← ht, ← hc, w.1]))).trans ((p.2.2 j hj).2 c hc)⟩⟩
theorem gSO.put {ty : Nat → Nat} {c9 : Nat} {s : gWt} {h h' : gH} {i v : Int} (uq : gUq ty) (ht : ty c9 = 32) (f : ∀ x j, ¬ (x = c9 ∧ j = i.toNat) → h'.2.2.2.2 x j = h.2.2.2.2 x j) (e : h'.2.2.2.2 c9 i.toNat = .int (zi (v % 256))) (hi : i = s.1) (p : gSO ty s h) : gSO ty (eeB s v) h' := by
  refine ⟨p.1, by have := p.2.1; show 0 ≤ s.1 + 1; omega, fun j hj => ?_⟩
  have hj : (j : Int) < s.1 + 1 := hj
  show (0 ≤ gfu s.2.2.2 s.1.toNat (v % 256) j ∧ gfu s.2.2.2 s.1.toNat (v % 256) j < 256) ∧ ∀ c, ty c = 32 → h'.2.2.2.2 c j = .int (zi (gfu s.2.2.2 s.1.toNat (v % 256) j))
  by_cases c : j = s.1.toNat
  · rw [c, gfu_eq]
    refine ⟨by omega, fun c2 hc => ?_⟩
    have e9 : c2 = c9 := uq c2 c9 (hc.trans ht.symm) (by rw [hc]; decide) (by rw [hc]; decide)
    rw [e9, ← hi]
    exact e
  · rw [gfu_ne c]
    refine ⟨(p.2.2 j (by omega)).1, fun c2 hc => ?_⟩
    rw [f c2 j (fun w => c (by rw [w.2, hi]))]
    exact (p.2.2 j (by omega)).2 c2 hc
theorem gSO.nil {ty : Nat → Nat} {s : gWt} {h : gH} (hp : ∀ k, gpl rT 32 k = 1000 * 32 + 999) (e : s.1 = 0) : gSO ty s h := ⟨hp, by omega, fun j hj => absurd hj (by omega)⟩
/-- one more bit 1 while bits are held -/
def eFx (s : gWt) (b : Int) : gWt := if 0 < b then eeK 255 (8 - s.2.2.1).toNat s (b - s.2.2.1).toNat else eeF s
theorem eFx_0 {s : gWt} (h : eeOk s) : eFx s s.2.2.1 = s := by
  unfold eFx
  split
  · rw [(by omega : (s.2.2.1 - s.2.2.1).toNat = 0)]
    rfl
  · exact eeF_n (by assumption)
theorem eFx_s {s : gWt} {b : Int} (h : eeOk s) (h0 : 0 < s.2.2.1) (h1 : s.2.2.1 ≤ b) (h2 : b ≤ 7) : eFx s (if b + 1 = 8 then 0 else b + 1) = eeb (eFx s b) 1 := by
  have e : eFx s b = eeK 255 (8 - s.2.2.1).toNat s (b - s.2.2.1).toNat := if_pos (by omega)
  rw [e]
  have st : eeb (eeK 255 (8 - s.2.2.1).toNat s (b - s.2.2.1).toNat) 1 = eeK 255 (8 - s.2.2.1).toNat s ((b - s.2.2.1).toNat + 1) := by
    show _ = eeb _ (255 / 2 ^ ((8 - s.2.2.1).toNat - 1 - (b - s.2.2.1).toNat) % 2)
    rw [e255 _ (by omega)]
  rw [st]
  by_cases c : b + 1 = 8
  · rw [if_pos c]
    unfold eFx eeF eeN
    rw [if_neg (by omega), if_pos h0, (by omega : (b - s.2.2.1).toNat + 1 = (8 - s.2.2.1).toNat)]
  · rw [if_neg c]
    unfold eFx
    rw [if_pos (by omega), (by omega : (b + 1 - s.2.2.1).toNat = (b - s.2.2.1).toNat + 1)]
/-- what coefficients become, by a division -/
theorem e_sh {v z : Int} {b : Nat} (e : z = v.tdiv (2 ^ b)) : z = if v < 0 then -(eeA v / 2 ^ b) else eeA v / 2 ^ b := by
  unfold eeA
  split
  · rename_i h
    have : v.tdiv (2 ^ b) = -((-v).tdiv (2 ^ b)) := by rw [Int.neg_tdiv, Int.neg_neg]
    rw [e, this, Int.tdiv_eq_ediv_of_nonneg (by omega)]
  · rw [e, Int.tdiv_eq_ediv_of_nonneg (by omega)]
theorem e_shA {v z : Int} {b : Nat} (e : z = if v < 0 then -(eeA v / 2 ^ b) else eeA v / 2 ^ b) : eeA z = eeA v / 2 ^ b ∧ (z < 0 → v < 0) ∧ (0 < z → ¬ v < 0) := by
  have p : (0 : Int) ≤ eeA v / 2 ^ b := Int.ediv_nonneg (by unfold eeA; split <;> omega) (Int.le_of_lt (Int.pow_pos (by decide)))
  have ez : eeA z = if z < 0 then -z else z := rfl
  rw [ez]
  by_cases h : v < 0
  · rw [if_pos h] at e
    refine ⟨by split <;> omega, fun _ => h, fun _ => by omega⟩
  · rw [if_neg h] at e
    refine ⟨by split <;> omega, fun _ => by omega, fun _ => h⟩
theorem eeL_u {a n : Int} (h0 : 0 ≤ a) (h1 : a ≤ 8191) (hn : 0 ≤ n ∧ n ≤ 13) (hz : a / 2 ^ n.toNat = 0) (hp : n = 0 ∨ ¬ a / 2 ^ (n - 1).toNat = 0) : n = eeL a := by
  have hL : eeL a = (if a < 1 then 0 else if a < 2 then 1 else if a < 4 then 2 else if a < 8 then 3 else if a < 16 then 4 else if a < 32 then 5 else if a < 64 then 6 else if a < 128 then 7 else if a < 256 then 8 else if a < 512 then 9 else if a < 1024 then 10 else if a < 2048 then 11 else if a < 4096 then 12 else 13) := rfl
  rcases (by omega : n = 0 ∨ n = 1 ∨ n = 2 ∨ n = 3 ∨ n = 4 ∨ n = 5 ∨ n = 6 ∨ n = 7 ∨ n = 8 ∨ n = 9 ∨ n = 10 ∨ n = 11 ∨ n = 12 ∨ n = 13) with e | e | e | e | e | e | e | e | e | e | e | e | e | e
  · subst e
    rw [show (2 : Int) ^ (0 : Int).toNat = 1 from rfl] at hz
    clear hp
    omega
  · subst e
    rw [show (2 : Int) ^ (1 : Int).toNat = 2 from rfl] at hz
    rw [show (2 : Int) ^ ((1 : Int) - 1).toNat = 1 from rfl] at hp
    omega
  · subst e
    rw [show (2 : Int) ^ (2 : Int).toNat = 4 from rfl] at hz
    rw [show (2 : Int) ^ ((2 : Int) - 1).toNat = 2 from rfl] at hp
    omega
  · subst e
    rw [show (2 : Int) ^ (3 : Int).toNat = 8 from rfl] at hz
    rw [show (2 : Int) ^ ((3 : Int) - 1).toNat = 4 from rfl] at hp
    omega
  · subst e
    rw [show (2 : Int) ^ (4 : Int).toNat = 16 from rfl] at hz
    rw [show (2 : Int) ^ ((4 : Int) - 1).toNat = 8 from rfl] at hp
    omega
  · subst e
    rw [show (2 : Int) ^ (5 : Int).toNat = 32 from rfl] at hz
    rw [show (2 : Int) ^ ((5 : Int) - 1).toNat = 16 from rfl] at hp
    omega
  · subst e
    rw [show (2 : Int) ^ (6 : Int).toNat = 64 from rfl] at hz
    rw [show (2 : Int) ^ ((6 : Int) - 1).toNat = 32 from rfl] at hp
    omega
  · subst e
    rw [show (2 : Int) ^ (7 : Int).toNat = 128 from rfl] at hz
    rw [show (2 : Int) ^ ((7 : Int) - 1).toNat = 64 from rfl] at hp
    omega
  · subst e
    rw [show (2 : Int) ^ (8 : Int).toNat = 256 from rfl] at hz
    rw [show (2 : Int) ^ ((8 : Int) - 1).toNat = 128 from rfl] at hp
    omega
  · subst e
    rw [show (2 : Int) ^ (9 : Int).toNat = 512 from rfl] at hz
    rw [show (2 : Int) ^ ((9 : Int) - 1).toNat = 256 from rfl] at hp
    omega
  · subst e
    rw [show (2 : Int) ^ (10 : Int).toNat = 1024 from rfl] at hz
    rw [show (2 : Int) ^ ((10 : Int) - 1).toNat = 512 from rfl] at hp
    omega
  · subst e
    rw [show (2 : Int) ^ (11 : Int).toNat = 2048 from rfl] at hz
    rw [show (2 : Int) ^ ((11 : Int) - 1).toNat = 1024 from rfl] at hp
    omega
  · subst e
    rw [show (2 : Int) ^ (12 : Int).toNat = 4096 from rfl] at hz
    rw [show (2 : Int) ^ ((12 : Int) - 1).toNat = 2048 from rfl] at hp
    omega
  · subst e
    rw [show (2 : Int) ^ (13 : Int).toNat = 8192 from rfl] at hz
    rw [show (2 : Int) ^ ((13 : Int) - 1).toNat = 4096 from rfl] at hp
    omega
theorem gSO.eq {ty : Nat → Nat} {s s2 : gWt} {h : gH} (e1 : s.1 = s2.1) (e2 : s.2.2.2 = s2.2.2.2) (p : gSO ty s h) : gSO ty s2 h := by
  refine ⟨p.1, by rw [← e1]; exact p.2.1, fun j hj => ?_⟩
  rw [← e2]
  exact p.2.2 j (by rw [e1]; exact hj)
def gTk (P : Prop) (j : Nat) (ty : Nat → Nat) (ec : Nat → Int × Int) (h : gH) : Prop := P → (∀ s : Nat, s < 256 → 0 ≤ (ec s).2 ∧ (ec s).2 ≤ 16) ∧ (∀ c, ty c = 37 → ∀ s, s < 256 → gvI (h.2.2.2.2 c (257 * j + s)) = (ec s).2) ∧ (∀ c, ty c = 38 → ∀ s, s < 256 → 0 < (ec s).2 → gvI (h.2.2.2.2 c (257 * j + s)) = (ec s).1)
theorem gTk.fr {P : Prop} {j : Nat} {ty : Nat → Nat} {ec : Nat → Int × Int} {h h' : gH} {l : List Nat} (g : gFr rT ty l h h') (h1 : ¬ 37999 ∈ l) (h2 : ¬ 38999 ∈ l) (p : gTk P j ty ec h) : gTk P j ty ec h' := fun w => ⟨(p w).1, fun c hc s hs => by
  rw [g.2.2.2.2 c _ (by rw [hc]; exact h1)]
  exact (p w).2.1 c hc s hs, fun c hc s hs h0 => by
  rw [g.2.2.2.2 c _ (by rw [hc]; exact h2)]
  exact (p w).2.2 c hc s hs h0⟩
theorem gTk.pt {P : Prop} {j b k q2 : Nat} {ty : Nat → Nat} {ec : Nat → Int × Int} {h h' : gH} (g : ∀ x n, ¬ (x = b ∧ n = k) → h'.2.2.2.2 x n = h.2.2.2.2 x n) (ht : ty b = q2) (h1 : q2 ≠ 37) (h2 : q2 ≠ 38) (p : gTk P j ty ec h) : gTk P j ty ec h' := fun w => ⟨(p w).1, fun c hc s hs => by
  rw [g c _ (fun w => h1 (by rw [← ht, ← hc, w.1]))]
  exact (p w).2.1 c hc s hs, fun c hc s hs h0 => by
  rw [g c _ (fun w => h2 (by rw [← ht, ← hc, w.1]))]
  exact (p w).2.2 c hc s hs h0⟩
theorem gTk.imp {P Q : Prop} {j : Nat} {ty : Nat → Nat} {ec : Nat → Int × Int} {h : gH} (i : Q → P) (p : gTk P j ty ec h) : gTk Q j ty ec h := fun w => p (i w)
theorem gTk.sz {P : Prop} {j c : Nat} {ty : Nat → Nat} {ec : Nat → Int × Int} {h : gH} {s i z : Int} (p : gTk P j ty ec h) (w : P) (hs : 0 ≤ s ∧ s < 256) (ht : ty c = 37) (hi : i = 257 * (j : Int) + s) (e : h.2.2.2.2 c i.toNat = .int (zi z)) (r : -2147483648 ≤ z ∧ z ≤ 2147483647) : z = (ec s.toNat).2 ∧ 0 ≤ z ∧ z ≤ 16 := by
  have a := (p w).1 s.toNat (by omega)
  have b := (p w).2.1 c ht s.toNat (by omega)
  rw [(by omega : 257 * j + s.toNat = i.toNat), e] at b
  have b2 : (zi z).toInt = (ec s.toNat).2 := b
  rw [zi_in (by omega)] at b2
  omega
theorem gTk.cd {P : Prop} {j c : Nat} {ty : Nat → Nat} {ec : Nat → Int × Int} {h : gH} {s i z : Int} (p : gTk P j ty ec h) (w : P) (hs : 0 ≤ s ∧ s < 256) (ht : ty c = 38) (hi : i = 257 * (j : Int) + s) (e : h.2.2.2.2 c i.toNat = .int (zi z)) (r : -2147483648 ≤ z ∧ z ≤ 2147483647) (h0 : 0 < (ec s.toNat).2) : z = (ec s.toNat).1 := by
  have b := (p w).2.2 c ht s.toNat (by omega) h0
  rw [(by omega : 257 * j + s.toNat = i.toNat), e] at b
  have b2 : (zi z).toInt = (ec s.toNat).1 := b
  rw [zi_in (by omega)] at b2
  exact b2
/-- the bits that wait, as they lie in the row -/
def gWa (ty : Nat → Nat) (w : Int) (n : Nat) (h : gH) : Prop := n ≤ 64 ∧ ∃ f : Nat → Int, gRn 64 ty 42 f h ∧ ∀ j : Nat, j < n → f j = w / 2 ^ (n - 1 - j) % 2
theorem gWa.fr {ty : Nat → Nat} {w : Int} {n : Nat} {h h' : gH} {l : List Nat} (g : gFr rT ty l h h') (hl : ∀ x ∈ ([42999] : List Nat), ¬ x ∈ l) (p : gWa ty w n h) : gWa ty w n h' := by
  obtain ⟨a, f, x, y⟩ := p
  exact ⟨a, f, x.fr g (hl _ (by decide)), y⟩
theorem gWa.pt {ty : Nat → Nat} {c9 j9 q2 : Nat} {w : Int} {n : Nat} {h h' : gH} (g : ∀ x n, ¬ (x = c9 ∧ n = j9) → h'.2.2.2.2 x n = h.2.2.2.2 x n) (ht : ty c9 = q2) (hq : ∀ x ∈ ([42] : List Nat), q2 ≠ x) (p : gWa ty w n h) : gWa ty w n h' := by
  obtain ⟨a, f, x, y⟩ := p
  exact ⟨a, f, x.pt g ht (hq _ (by decide)), y⟩
theorem gWa.zero {ty : Nat → Nat} {c : Nat} {w : Int} {h : gH} (uq : gUq ty) (ht : ty c = 42) : gWa ty w 0 h := ⟨by omega, _, gRn.mk uq ht (by decide) (fun _ => rfl), fun j hj => absurd hj (by omega)⟩
theorem gWa.low {ty : Nat → Nat} {w : Int} {n : Nat} {h : gH} (p : gWa ty w n h) : gWa ty w 0 h := by
  obtain ⟨a, f, x, y⟩ := p
  exact ⟨by omega, f, x, fun j hj => absurd hj (by omega)⟩
theorem gWa.put {ty : Nat → Nat} {c : Nat} {w b i : Int} {n : Nat} {h h' : gH} (uq : gUq ty) (ht : ty c = 42) (p : gWa ty w n h) (hn : n < 64) (hb : 0 ≤ b ∧ b ≤ 1) (hi : i = n) (f : ∀ x k, ¬ (x = c ∧ k = i.toNat) → h'.2.2.2.2 x k = h.2.2.2.2 x k) (e : h'.2.2.2.2 c i.toNat = .int (zi b)) : gWa ty (2 * w + b) (n + 1) h' := by
  obtain ⟨a, g, x, y⟩ := p
  refine ⟨by omega, _, x.put uq ht (by decide) f e (by omega) (by omega), fun j hj => ?_⟩
  by_cases c1 : j = i.toNat
  · rw [c1, gfu_eq, (by omega : n + 1 - 1 - i.toNat = 0), Int.pow_zero, Int.ediv_one]
    omega
  · rw [gfu_ne c1, y j (by omega)]
    obtain ⟨k, hk⟩ : ∃ k, n - 1 - j = k := ⟨_, rfl⟩
    rw [(by omega : n + 1 - 1 - j = k + 1), hk, Int.pow_succ', ← Int.ediv_ediv_of_nonneg (by omega : (0 : Int) ≤ 2), (by omega : (2 * w + b) / 2 = w)]
theorem eeRt_ls {T : Type} {sy : Int → T → T} {pl : Int → Nat → T → T} {lw k0 ls l2 : Int} {cf : Nat → Int} {b n : Nat} {t : T} (hl : ∀ j : Nat, k0 + j ≤ ls ↔ k0 + j ≤ l2) : eeRt sy pl lw cf b k0 ls n t = eeRt sy pl lw cf b k0 l2 n t := eeRt_rel (R := fun x y => x = y) (fun s t u _ _ h => by rw [h]) (fun v n t u h => by rw [h]) hl rfl
theorem eeWk_t {T : Type} {sy : Int → T → T} {pl : Int → Nat → T → T} {r : Int × Int × Nat × T} {a b : Int} (h : 16 ≤ b) (h2 : b ≤ a) (h3 : (a - b) % 16 = 0) : eeWk sy pl r a (b - 16) = ((eeWk sy pl r a b).1 - 16, (eeWk sy pl r a b).2.1, 0, pl (eeWk sy pl r a b).2.1 (eeWk sy pl r a b).2.2.1 (sy 240 (eeWk sy pl r a b).2.2.2)) := eeW_s (by omega)
theorem e_hm {k l ln z y : Int} (h1 : k ≤ ln ↔ k ≤ l) (h2 : z = y ∨ k ≤ l) (h3 : (y - z) % 16 = 0) (h4 : z ≤ 15 ∨ ¬ k ≤ ln) : (k ≤ l ∧ z ≤ 15 ∧ (y - z) % 16 = 0) ∨ (¬ k ≤ l ∧ z = y) := by omega
theorem eeRk_1w {ek : Nat → Int × Int} {lw p fr tt k : Int} {cf : Nat → Int} {g : gWt} {v a s V x y : Int} {er ew : Int × Int × Nat × gWt} (her : er = eeRk (ewS ek) eeN lw cf p fr tt g k) (hew : ew = eeWk (ewS ek) eeN er x y) (h0 : 0 ≤ fr) (hp : 0 ≤ p) (hk : fr ≤ k) (e : cf (p + k).toNat = v) (ea : a = eeA v / 2 ^ lw.toNat) (h1 : a = 1) (ex : x = er.1) (hx : 0 ≤ y ∧ y ≤ x) (hm : (k ≤ eeLk lw cf p fr tt ∧ y ≤ 15 ∧ (x - y) % 16 = 0) ∨ (¬ k ≤ eeLk lw cf p fr tt ∧ y = x)) (ey : y = ew.1) (es : s = 16 * (y % 16) + 1) (eV : V = if v < 0 then 0 else 1) (hV : V = V % 2) : eeRk (ewS ek) eeN lw cf p fr tt g (k + 1) = (0, ew.2.1, 0, eeN ew.2.1 ew.2.2.1 (eeb (ewS ek s ew.2.2.2) V)) := by
  have h := eeRk_1 (sy := ewS ek) (pl := eeN) (t := g) h0 hp hk e ea h1 (by rw [← her]; exact ex) hx hm (by rw [← her, ← hew]; exact ey) es eV
  rw [← her, ← hew] at h
  have e1 : eeN V 1 (ewS ek s ew.2.2.2) = eeb (ewS ek s ew.2.2.2) V := eeN_1 hV
  rw [e1] at h
  exact h
