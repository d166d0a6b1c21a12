/-! ===== what is known of one place of a row ===== -/
def gEl (ty : Nat → Nat) (q : Nat) (b lo hi : Int) (h : gH) : Prop := ∀ (c : Nat) (z : Int), ty c = q → h.2.2.2.2 c b.toNat = .int (zi z) → -2147483648 ≤ z → z ≤ 2147483647 → lo ≤ z ∧ z ≤ hi
theorem gEl.fr {T : Nat → Option gRg} {ty : Nat → Nat} {l : List Nat} {h h' : gH} {q : Nat} {b lo hi : Int} (g : gFr T ty l h h') (hq : ¬ (1000 * q + 999) ∈ l) (hT : ∀ k, gpl T q k = 1000 * q + 999) (e : gEl ty q b lo hi h) : gEl ty q b lo hi h' := fun c z ht hc x y => e c z ht (by rw [← g.2.2.2.2 c _ (by rw [ht, hT]; exact hq)]; exact hc) x y
theorem gEl.pt {ty : Nat → Nat} {h h' : gH} {q q2 c k : Nat} {b lo hi : Int} (f : ∀ x j, ¬ (x = c ∧ j = k) → h'.2.2.2.2 x j = h.2.2.2.2 x j) (ht : ty c = q2) (hq : q2 ≠ q) (e : gEl ty q b lo hi h) : gEl ty q b lo hi h' := fun x z hx hc u v => e x z hx (by rw [← f x _ (fun w => hq (by rw [← ht, ← hx, w.1]))]; exact hc) u v
theorem gEl.wd {ty : Nat → Nat} {h : gH} {q : Nat} {b lo hi lo2 hi2 : Int} (e : gEl ty q b lo hi h) (h1 : lo2 ≤ lo) (h2 : hi ≤ hi2) : gEl ty q b lo2 hi2 h := fun c z ht hc x y => by
  have := e c z ht hc x y
  omega
theorem zp_s {k : Int} (hk : 0 ≤ k) : (2 : Int) ^ (k + 1).toNat = 2 * 2 ^ k.toNat := by
  obtain ⟨n, rfl⟩ := Int.eq_ofNat_of_zero_le hk
  show (2 : Int) ^ (n + 1) = 2 * 2 ^ n
  rw [Int.pow_succ, Int.mul_comm]
theorem zp_le {k : Int} (hk : 0 ≤ k) (h16 : k ≤ 16) : 1 ≤ (2 : Int) ^ k.toNat ∧ (2 : Int) ^ k.toNat ≤ 65536 := by
  obtain ⟨n, rfl⟩ := Int.eq_ofNat_of_zero_le hk
  show 1 ≤ (2 : Int) ^ n ∧ (2 : Int) ^ n ≤ 65536
  have h1 : (2 : Nat) ^ n ≤ 2 ^ 16 := Nat.pow_le_pow_right (by decide) (by omega)
  have h2 : ((2 ^ n : Nat) : Int) ≤ ((2 ^ 16 : Nat) : Int) := Int.ofNat_le.mpr h1
  have h3 : (0 : Int) < 2 ^ n := Int.pow_pos (by decide)
  refine ⟨by omega, ?_⟩
  simpa using h2
