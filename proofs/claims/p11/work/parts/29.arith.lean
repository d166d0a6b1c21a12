/-! ===== dividing, masks, shifts ===== -/
theorem zi_dvn {a b : Int} (ha : 0 ≤ a ∧ a < 2147483648) (hb : 0 < b ∧ b < 2147483648) : zi a / zi b = zi (a / b) := by
  rw [zi_div (by omega) (by omega), Int.tdiv_eq_ediv_of_nonneg ha.1]
theorem zi_rmn {a b : Int} (ha : 0 ≤ a ∧ a < 2147483648) (hb : 0 < b ∧ b < 2147483648) : zi a - zi a / zi b * zi b = zi (a % b) := by
  rw [zi_dvn ha hb, zi_mul, zi_sub]
  congr 1
  have h1 := Int.emod_add_mul_ediv a b
  have h2 : a / b * b = b * (a / b) := Int.mul_comm _ _
  omega
theorem zi_tn (a : Int) : (zi a).toBitVec.toNat = (a % 4294967296).toNat := by
  show (BitVec.ofInt 32 a).toNat = _
  rw [BitVec.toNat_ofInt]
  rfl
theorem zi_and (a : Int) (k : Nat) (hk : k < 31) : zi a &&& zi ((2 ^ k - 1 : Nat) : Int) = zi (a % ((2 ^ k : Nat) : Int)) := by
  apply Int32.toBitVec_inj.mp
  apply BitVec.eq_of_toNat_eq
  rw [Int32.toBitVec_and, BitVec.toNat_and, zi_tn, zi_tn, zi_tn]
  have h1 : 2 ^ k < 2 ^ 31 := Nat.pow_lt_pow_right (by decide) hk
  have h2 : 0 < 2 ^ k := Nat.two_pow_pos k
  have h3 : (((2 ^ k - 1 : Nat) : Int) % 4294967296).toNat = 2 ^ k - 1 := by omega
  rw [h3, Nat.and_two_pow_sub_one_eq_mod]
  have h4 : 0 ≤ a % ((2 ^ k : Nat) : Int) := Int.emod_nonneg _ (by omega)
  have h5 : a % ((2 ^ k : Nat) : Int) < ((2 ^ k : Nat) : Int) := Int.emod_lt_of_pos _ (by omega)
  have h6 : (a % ((2 ^ k : Nat) : Int) % 4294967296) = a % ((2 ^ k : Nat) : Int) := Int.emod_eq_of_lt h4 (by omega)
  rw [h6]
  have h7 : ((2 ^ k : Nat) : Int) ∣ 4294967296 := by
    have : (2 ^ k : Nat) ∣ 4294967296 := by
      have e : (4294967296 : Nat) = 2 ^ 32 := by decide
      rw [e]
      exact Nat.pow_dvd_pow 2 (by omega)
    exact Int.ofNat_dvd.mpr this
  have h8 := Int.emod_emod_of_dvd a h7
  rw [← h8]
  have h9 : 0 ≤ a % 4294967296 := by omega
  generalize a % 4294967296 = x at h9
  obtain ⟨n, rfl⟩ := Int.eq_ofNat_of_zero_le h9
  rw [Int.toNat_natCast]
  exact (Int.toNat_natCast (n % 2 ^ k)).symm
theorem zi_and1 (a : Int) : zi a &&& zi 1 = zi (a % 2) := zi_and a 1 (by decide)
theorem zi_and7 (a : Int) : zi a &&& zi 7 = zi (a % 8) := zi_and a 3 (by decide)
theorem zi_and15 (a : Int) : zi a &&& zi 15 = zi (a % 16) := zi_and a 4 (by decide)
theorem zi_and31 (a : Int) : zi a &&& zi 31 = zi (a % 32) := zi_and a 5 (by decide)
theorem zi_and255 (a : Int) : zi a &&& zi 255 = zi (a % 256) := zi_and a 8 (by decide)
theorem zi_smk : ∀ k : Fin 32, ((zi (k.val : Int) &&& 31).toBitVec.smod 32).toNat = k.val := by decide +kernel
theorem zi_shr {a k : Int} (ha : -2147483648 ≤ a ∧ a < 2147483648) (hk : 0 ≤ k ∧ k < 32) : zi a >>> (zi k &&& 31) = zi (a / 2 ^ k.toNat) := by
  obtain ⟨n, rfl⟩ := Int.eq_ofNat_of_zero_le hk.1
  have hn : n < 32 := by omega
  apply Int32.toInt_inj.mp
  have e1 : (zi a >>> (zi (n : Int) &&& 31)).toInt = a / 2 ^ n := by
    show ((zi a).toBitVec.sshiftRight' ((zi (n : Int) &&& 31).toBitVec.smod 32)).toInt = _
    rw [BitVec.sshiftRight_eq', zi_smk ⟨n, hn⟩, BitVec.toInt_sshiftRight]
    show (zi a).toInt >>> n = _
    rw [zi_in ha, Int.shiftRight_eq_div_pow]
    rfl
  rw [e1, Int.toNat_natCast, zi_in]
  have p1 : (0 : Int) < 2 ^ n := Int.pow_pos (by decide)
  have q1 : a / 2 ^ n ≤ a ∨ a < 0 := by
    by_cases h : 0 ≤ a
    · exact Or.inl (Int.ediv_le_self _ h)
    · exact Or.inr (by omega)
  by_cases h : 0 ≤ a
  · have h2 := Int.ediv_le_self (2 ^ n) h
    have h3 := Int.ediv_nonneg h (Int.le_of_lt p1)
    omega
  · have h2 : a / 2 ^ n < 0 := Int.ediv_neg_of_neg_of_pos (by omega) p1
    have h3 : a ≤ a / 2 ^ n := by
      have := Int.le_ediv_of_mul_le (a := a) (b := a) p1 (by
        have : a * 2 ^ n ≤ a * 1 := Int.mul_le_mul_of_nonpos_left (by omega) (by omega)
        omega)
      exact this
    omega
theorem zd_f {x y : Int} (hx : 0 ≤ x) (hy : 0 < y) : 0 ≤ x / y ∧ x / y ≤ x := ⟨Int.ediv_nonneg hx (by omega), Int.ediv_le_self _ hx⟩
theorem zm_f {x y : Int} (hx : 0 ≤ x) (hy : 0 < y) : 0 ≤ x % y ∧ x % y < y ∧ x % y ≤ x := ⟨Int.emod_nonneg _ (by omega), Int.emod_lt_of_pos _ hy, by
  have h1 := Int.emod_add_mul_ediv x y
  have h2 : 0 ≤ y * (x / y) := Int.mul_nonneg (by omega) (Int.ediv_nonneg hx (by omega))
  omega⟩
section GYA
variable {P : Nat → Option gMt} {G : gG} {cn : Nat → Option Nat} {d : Nat} {t : gMt} {pc : Nat} {L : gL} {S : List Value} {h : gH} {F : gR → gL → Prop}
theorem gy_div {x y : Int} (hlk : glk pc (gmC t) = some (.idiv, 1)) (hx : ¬ pc ∈ gmE t) (ha : 0 ≤ x ∧ x < 2147483648) (hb : 0 < y ∧ y < 2147483648) (k : gz P G cn d t (pc + 1) L (.int (zi (x / y)) :: S) h F) : gz P G cn d t pc L (.int (zi y) :: .int (zi x) :: S) h F :=
  gz_div hlk hx (fun e => by have := (zi_inj (a := y) (b := 0) (by omega) (by omega)).mp e; omega) (by rw [zi_dvn ha hb]; exact k)
theorem gy_rem {x y : Int} (hlk : glk pc (gmC t) = some (.irem, 1)) (hx : ¬ pc ∈ gmE t) (ha : 0 ≤ x ∧ x < 2147483648) (hb : 0 < y ∧ y < 2147483648) (k : gz P G cn d t (pc + 1) L (.int (zi (x % y)) :: S) h F) : gz P G cn d t pc L (.int (zi y) :: .int (zi x) :: S) h F :=
  gz_rem hlk hx (fun e => by have := (zi_inj (a := y) (b := 0) (by omega) (by omega)).mp e; omega) (by rw [zi_rmn ha hb]; exact k)
theorem gy_shr {x y : Int} (hlk : glk pc (gmC t) = some (.ishr, 1)) (hx : ¬ pc ∈ gmE t) (ha : -2147483648 ≤ x ∧ x < 2147483648) (hb : 0 ≤ y ∧ y < 32) (k : gz P G cn d t (pc + 1) L (.int (zi (x / 2 ^ y.toNat)) :: S) h F) : gz P G cn d t pc L (.int (zi y) :: .int (zi x) :: S) h F := by
  refine gz_0 hlk (fun q => q.elim (fun z => by cases z) hx) rfl ?_ k
  simp only [gst0, gII]
  rw [if_pos trivial, zi_shr ha hb]
/-- any int is one -/
theorem gy_any {x : Int32} (k : ∀ z : Int, x = zi z → -2147483648 ≤ z → z ≤ 2147483647 → gz P G cn d t pc L (.int (zi z) :: S) h F) : gz P G cn d t pc L (.int x :: S) h F := by
  have := k x.toInt (zi_to x).symm (zr_to x).1 (by have := (zr_to x).2; omega)
  rw [zi_to] at this
  exact this
end GYA
