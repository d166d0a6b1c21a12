/-! ===== dividing, masks, shifts ===== -/
theorem zi_dvn {a b : Int} (ha : 0 ≤ a ∧ a < 2147483648) (hb : 0 < b ∧ b < 2147483648) : zi a / zi b = zi (a / b) := by
  rw [zi_div (by omega) (by omega), Int.tdiv_eq_ediv_of_nonneg ha.1]
theorem zi_rmn {a b : Int} (ha : 0 ≤ a ∧ a < 2147483648) (hb : 0 < b ∧ b < 2147483648) : zi a - zi a / zi b * zi b = zi (a % b) := by
  rw [zi_dvn ha hb, zi_mul, zi_sub]
  congr 1
  have h1 := Int.emod_add_mul_ediv a b
  have h2 : a / b * b = b * (a / b) := Int.mul_comm _ _
  omega
theorem zi_tn (a : Int) : (zi a).toBitVec.toNat = (a % 4294967296).toNat := by
  show (BitVec.ofInt 32 a).toNat = _
  rw [BitVec.toNat_ofInt]
  rfl
theorem zi_and (a : Int) (k : Nat) (hk : k < 31) : zi a &&& zi ((2 ^ k - 1 : Nat) : Int) = zi (a % ((2 ^ k : Nat) : Int)) := by
  apply Int32.toBitVec_inj.mp
  apply BitVec.eq_of_toNat_eq
  rw [Int32.toBitVec_and, BitVec.toNat_and, zi_tn, zi_tn, zi_tn]
  have h1 : 2 ^ k < 2 ^ 31 := Nat.pow_lt_pow_right (by decide) hk
  have h2 : 0 < 2 ^ k := Nat.two_pow_pos k
  have h3 : (((2 ^ k - 1 : Nat) : Int) % 4294967296).toNat = 2 ^ k - 1 := by omega
  rw [h3, Nat.and_two_pow_sub_one_eq_mod]
  have h4 : 0 ≤ a % ((2 ^ k : Nat) : Int) := Int.emod_nonneg _ (by omega)
  have h5 : a % ((2 ^ k : Nat) : Int) < ((2 ^ k : Nat) : Int) := Int.emod_lt_of_pos _ (by omega)
  have h6 : (a % ((2 ^ k : Nat) : Int) % 4294967296) = a % ((2 ^ k : Nat) : Int) := Int.emod_eq_of_lt h4 (by omega)
  rw [h6]
  have h7 : ((2 ^ k : Nat) : Int) ∣ 4294967296 := by
    have : (2 ^ k : Nat) ∣ 4294967296 := by
      have e : (4294967296 : Nat) = 2 ^ 32 := by decide
      rw [e]
      exact Nat.pow_dvd_pow 2 (by omega)
    exact Int.ofNat_dvd.mpr this
  have h8 := Int.emod_emod_of_dvd a h7
  rw [← h8]
  have h9 : 0 ≤ a % 4294967296 := by omega
  generalize a % 4294967296 = x at h9
  obtain ⟨n, rfl⟩ := Int.eq_ofNat_of_zero_le h9
  rw [Int.toNat_natCast]
  exact (Int.toNat_natCast (n % 2 ^ k)).symm
theorem zi_and1 (a : Int) : zi a &&& zi 1 = zi (a % 2) := zi_and a 1 (by decide)
theorem zi_and7 (a : Int) : zi a &&& zi 7 = zi (a % 8) := zi_and a 3 (by decide)
theorem zi_and15 (a : Int) : zi a &&& zi 15 = zi (a % 16) := zi_and a 4 (by decide)
theorem zi_and31 (a : Int) : zi a &&& zi 31 = zi (a % 32) := zi_and a 5 (by decide)
theorem zi_and255 (a : Int) : zi a &&& zi 255 = zi (a % 256) := zi_and a 8 (by decide)
theorem zi_smk : ∀ k : Fin 32, ((zi (k.val : Int) &&& 31).toBitVec.smod 32).toNat = k.val := by decide +kernel
theorem zi_shr {a k : Int} (ha : -2147483648 ≤ a ∧ a < 2147483648) (hk : 0 ≤ k ∧ k < 32) : zi a >>> (zi k &&& 31) = zi (a / 2 ^ k.toNat) := by
  obtain ⟨n, rfl⟩ := Int.eq_ofNat_of_zero_le hk.1
  have hn : n < 32 := by omega
  apply Int32.toInt_inj.mp
  have e1 : (zi a >>> (zi (n : Int) &&& 31)).toInt = a / 2 ^ n := by
    show ((zi a).toBitVec.sshiftRight' ((zi (n : Int) &&& 31).toBitVec.smod 32)).toInt = _
    rw [BitVec.sshiftRight_eq', zi_smk ⟨n, hn⟩, BitVec.toInt_sshiftRight]
    show (zi a).toInt >>> n = _
    rw [zi_in ha, Int.shiftRight_eq_div_pow]
    rfl
  rw [e1, Int.toNat_natCast, zi_in]
  have p1 : (0 : Int) < 2 ^ n := Int.pow_pos (by decide)
  have q1 : a / 2 ^ n ≤ a ∨ a < 0 := by
    by_cases h : 0 ≤ a
    · exact Or.inl (Int.ediv_le_self _ h)
    · exact Or.inr (by omega)
  by_cases h : 0 ≤ a
  · have h2 := Int.ediv_le_self (2 ^ n) h
    have h3 := Int.ediv_nonneg h (Int.le_of_lt p1)
    omega
  · have h2 : a / 2 ^ n < 0 := Int.ediv_neg_of_neg_of_pos (by omega) p1
    have h3 : a ≤ a / 2 ^ n := by
      have := Int.le_ediv_of_mul_le (a := a) (b := a) p1 (by
        have : a * 2 ^ n ≤ a * 1 := Int.mul_le_mul_of_nonpos_left (by omega) (by omega)
        omega)
      exact this
    omega
theorem zd_f {x y : Int} (hx : 0 ≤ x) (hy : 0 < y) : 0 ≤ x / y ∧ x / y ≤ x ∧ (y ≤ x → 1 ≤ x / y) ∧ x < (x / y + 1) * y ∧ (x / y + 1) * y ≤ x + y ∧ y ≤ (x / y + 1) * y := by
  have h0 := Int.ediv_nonneg hx (by omega : (0 : Int) ≤ y)
  have h1 := Int.emod_add_mul_ediv x y
  have h2 := Int.emod_nonneg x (by omega : y ≠ 0)
  have h3 := Int.emod_lt_of_pos x hy
  have h4 : (x / y + 1) * y = y * (x / y) + y := by rw [Int.add_mul, Int.one_mul, Int.mul_comm]
  have h5 : 0 ≤ y * (x / y) := Int.mul_nonneg (by omega) h0
  refine ⟨h0, Int.ediv_le_self _ hx, fun h => ?_, by omega, by omega, by omega⟩
  exact Int.le_ediv_of_mul_le hy (by omega)
theorem zm_f {x y : Int} (hx : 0 ≤ x) (hy : 0 < y) : 0 ≤ x % y ∧ x % y < y ∧ x % y ≤ x := ⟨Int.emod_nonneg _ (by omega), Int.emod_lt_of_pos _ hy, by
  have h1 := Int.emod_add_mul_ediv x y
  have h2 : 0 ≤ y * (x / y) := Int.mul_nonneg (by omega) (Int.ediv_nonneg hx (by omega))
  omega⟩
section GYA
variable {P : Nat → Option gMt} {G : gG} {cn : Nat → Option Nat} {d : Nat} {t : gMt} {pc : Nat} {L : gL} {S : List Value} {h : gH} {F : gR → gL → Prop}
theorem gy_div {x y : Int} (hlk : glk pc (gmC t) = some (.idiv, 1)) (hx : ¬ pc ∈ gmE t) (ha : 0 ≤ x ∧ x < 2147483648) (hb : 0 < y ∧ y < 2147483648) (k : gz P G cn d t (pc + 1) L (.int (zi (x / y)) :: S) h F) : gz P G cn d t pc L (.int (zi y) :: .int (zi x) :: S) h F :=
  gz_div hlk hx (fun e => by have := (zi_inj (a := y) (b := 0) (by omega) (by omega)).mp e; omega) (by rw [zi_dvn ha hb]; exact k)
theorem gy_rem {x y : Int} (hlk : glk pc (gmC t) = some (.irem, 1)) (hx : ¬ pc ∈ gmE t) (ha : 0 ≤ x ∧ x < 2147483648) (hb : 0 < y ∧ y < 2147483648) (k : gz P G cn d t (pc + 1) L (.int (zi (x % y)) :: S) h F) : gz P G cn d t pc L (.int (zi y) :: .int (zi x) :: S) h F :=
  gz_rem hlk hx (fun e => by have := (zi_inj (a := y) (b := 0) (by omega) (by omega)).mp e; omega) (by rw [zi_rmn ha hb]; exact k)
theorem gy_shr {x y : Int} (hlk : glk pc (gmC t) = some (.ishr, 1)) (hx : ¬ pc ∈ gmE t) (ha : -2147483648 ≤ x ∧ x < 2147483648) (hb : 0 ≤ y ∧ y < 32) (k : gz P G cn d t (pc + 1) L (.int (zi (x / 2 ^ y.toNat)) :: S) h F) : gz P G cn d t pc L (.int (zi y) :: .int (zi x) :: S) h F := by
  refine gz_0 hlk (fun q => q.elim (fun z => by cases z) hx) rfl ?_ k
  simp only [gst0, gII]
  rw [if_pos trivial, zi_shr ha hb]
/-- any int is one -/
theorem gy_any {x : Int32} (k : ∀ z : Int, x = zi z → -2147483648 ≤ z → z ≤ 2147483647 → gz P G cn d t pc L (.int (zi z) :: S) h F) : gz P G cn d t pc L (.int x :: S) h F := by
  have := k x.toInt (zi_to x).symm (zr_to x).1 (by have := (zr_to x).2; omega)
  rw [zi_to] at this
  exact this
end GYA
section GYB
variable {P : Nat → Option gMt} {G : gG} {cn : Nat → Option Nat} {d : Nat} {t : gMt} {pc : Nat} {L : gL} {S : List Value} {h : gH} {F : gR → gL → Prop}
/-- a shift to the right, by its bounds alone -/
theorem gy_shv {x y : Int} (hlk : glk pc (gmC t) = some (.ishr, 1)) (hx : ¬ pc ∈ gmE t) (ha : -2147483648 ≤ x ∧ x < 2147483648) (hb : 0 ≤ y ∧ y < 32) (k : ∀ z : Int, (0 ≤ x → 0 ≤ z ∧ z ≤ x) → (x < 0 → x ≤ z ∧ z < 0) → gz P G cn d t (pc + 1) L (.int (zi z) :: S) h F) : gz P G cn d t pc L (.int (zi y) :: .int (zi x) :: S) h F := by
  refine gy_shr hlk hx ha hb (k _ (fun h0 => ?_) (fun h0 => ?_))
  · exact ⟨Int.ediv_nonneg h0 (Int.le_of_lt (Int.pow_pos (by decide))), Int.ediv_le_self _ h0⟩
  · have p1 : (0 : Int) < 2 ^ y.toNat := Int.pow_pos (by decide)
    refine ⟨?_, Int.ediv_neg_of_neg_of_pos h0 p1⟩
    exact Int.le_ediv_of_mul_le p1 (by
      have : x * 2 ^ y.toNat ≤ x * 1 := Int.mul_le_mul_of_nonpos_left (by omega) (by omega)
      omega)
/-- what two ints give, whatever it is -/
theorem gy_iiv {I : Instr} {f : Int32 → Int32 → Int32} {x y : Int32} (hlk : glk pc (gmC t) = some (I, 1)) (hx : ¬ (gexit I = true ∨ pc ∈ gmE t)) (hci : gci I = none) (hI : ∀ (L : gL) (S : List Value), gst0 I 1 pc L S = gII 1 pc L S f) (k : ∀ z : Int, f x y = zi z → -2147483648 ≤ z → z ≤ 2147483647 → gz P G cn d t (pc + 1) L (.int (zi z) :: S) h F) : gz P G cn d t pc L (.int y :: .int x :: S) h F := by
  refine gz_0 hlk hx hci (pc' := pc + 1) (L' := L) (S' := .int (f x y) :: S) ?_ (gy_any (fun z e a b => k z e a b))
  rw [hI]
  rfl
theorem zi_pow : ∀ k : Fin 31, zi 1 <<< (zi (k.val : Int) &&& 31) = zi (2 ^ k.val) := by decide +kernel
/-- 1 moved to the left -/
theorem gy_sh1 {y : Int} (hlk : glk pc (gmC t) = some (.ishl, 1)) (hx : ¬ pc ∈ gmE t) (hb : 0 ≤ y ∧ y < 31) (k : ∀ z : Int, 1 ≤ z → z ≤ 1073741824 → (y ≤ 15 → z ≤ 32768) → gz P G cn d t (pc + 1) L (.int (zi z) :: S) h F) : gz P G cn d t pc L (.int (zi y) :: .int (zi 1) :: S) h F := by
  obtain ⟨n, rfl⟩ := Int.eq_ofNat_of_zero_le hb.1
  have hn : n < 31 := by omega
  refine gz_0 hlk (fun q => q.elim (fun z => by cases z) hx) rfl (pc' := pc + 1) (L' := L) (S' := .int (zi (2 ^ n)) :: S) ?_ (k _ ?_ ?_ ?_)
  · simp only [gst0, gII]
    rw [if_pos trivial, zi_pow ⟨n, hn⟩]
  · exact Int.pow_pos (by decide)
  · have h1 : (2 : Nat) ^ n ≤ 2 ^ 30 := Nat.pow_le_pow_right (by decide) (by omega)
    have h2 : ((2 ^ n : Nat) : Int) ≤ ((2 ^ 30 : Nat) : Int) := Int.ofNat_le.mpr h1
    simpa using h2
  · intro hy
    have h1 : (2 : Nat) ^ n ≤ 2 ^ 15 := Nat.pow_le_pow_right (by decide) (by omega)
    have h2 : ((2 ^ n : Nat) : Int) ≤ ((2 ^ 15 : Nat) : Int) := Int.ofNat_le.mpr h1
    simpa using h2
end GYB
