/-! ===== longs of the machine as whole numbers; more of division ===== -/
abbrev zl (a : Int) : Int64 := Int64.ofInt a
theorem zl_add (a b : Int) : zl a + zl b = zl (a + b) := (Int64.ofInt_add a b).symm
theorem zl_sub (a b : Int) : zl a - zl b = zl (a - b) := (Int64.ofInt_sub a b).symm
theorem zl_mul (a b : Int) : zl a * zl b = zl (a * b) := (Int64.ofInt_mul a b).symm
theorem zl_neg (a : Int) : -zl a = zl (-a) := (Int64.ofInt_neg a).symm
theorem zl_to (x : Int64) : zl x.toInt = x := Int64.ofInt_toInt x
theorem zl_rt (x : Int64) : -9223372036854775808 ≤ x.toInt ∧ x.toInt < 9223372036854775808 := ⟨x.le_toInt, x.toInt_lt⟩
theorem zl_in {a : Int} (h : -9223372036854775808 ≤ a ∧ a < 9223372036854775808) : (zl a).toInt = a := Int64.toInt_ofInt_of_le h.1 h.2
theorem zl_i2l {a : Int} (h : -2147483648 ≤ a ∧ a < 2147483648) : (zi a).toInt64 = zl a := by
  apply Int64.toInt_inj.mp
  rw [Int32.toInt_toInt64, zi_in h, zl_in (by omega)]
theorem zl_l2i (a : Int) : (zl a).toInt32 = zi a := Int64.toInt32_ofInt
theorem zl_lt {a b : Int} (ha : -9223372036854775808 ≤ a ∧ a < 9223372036854775808) (hb : -9223372036854775808 ≤ b ∧ b < 9223372036854775808) : zl a < zl b ↔ a < b := by
  rw [Int64.lt_iff_toInt_lt, zl_in ha, zl_in hb]
theorem zl_inj {a b : Int} (ha : -9223372036854775808 ≤ a ∧ a < 9223372036854775808) (hb : -9223372036854775808 ≤ b ∧ b < 9223372036854775808) : zl a = zl b ↔ a = b :=
  ⟨fun h => by rw [← zl_in ha, ← zl_in hb, h], fun h => by rw [h]⟩
theorem zl_cmp {a b : Int} (ha : -9223372036854775808 ≤ a ∧ a < 9223372036854775808) (hb : -9223372036854775808 ≤ b ∧ b < 9223372036854775808) : ∃ z : Int, lg_cmp (zl a) (zl b) = zi z ∧ (a < b ↔ z = -1) ∧ (a = b ↔ z = 0) ∧ (b < a ↔ z = 1) := by
  unfold lg_cmp
  by_cases h1 : b < a
  · rw [if_pos (show zl a > zl b from (zl_lt hb ha).mpr h1)]
    exact ⟨1, rfl, by omega, by omega, by omega⟩
  · rw [if_neg (show ¬ zl a > zl b from fun e => h1 ((zl_lt hb ha).mp e))]
    by_cases h2 : a = b
    · rw [if_pos (by rw [h2])]
      exact ⟨0, rfl, by omega, by omega, by omega⟩
    · rw [if_neg (fun e => h2 ((zl_inj ha hb).mp e))]
      exact ⟨-1, rfl, by omega, by omega, by omega⟩
theorem zl_dvn {a b : Int} (ha : 0 ≤ a ∧ a < 9223372036854775808) (hb : 0 < b ∧ b < 9223372036854775808) : zl a / zl b = zl (a / b) := by
  have h1 : (-9223372036854775808 : Int) ≤ a := by omega
  have h2 : a ≤ (9223372036854775807 : Int) := by omega
  have h3 : (-9223372036854775808 : Int) ≤ b := by omega
  have h4 : b ≤ (9223372036854775807 : Int) := by omega
  rw [← Int.tdiv_eq_ediv_of_nonneg ha.1]
  exact (Int64.ofInt_tdiv (a := a) (b := b) h1 h2 h3 h4).symm
theorem zl_smk : ∀ k : Fin 64, (((zi (k.val : Int)).toInt64 &&& 63).toBitVec.smod 64).toNat = k.val := by decide +kernel
theorem zl_shr {a k : Int} (ha : -9223372036854775808 ≤ a ∧ a < 9223372036854775808) (hk : 0 ≤ k ∧ k < 64) : zl a >>> ((zi k).toInt64 &&& 63) = zl (a / 2 ^ k.toNat) := by
  obtain ⟨n, rfl⟩ := Int.eq_ofNat_of_zero_le hk.1
  have hn : n < 64 := by omega
  apply Int64.toInt_inj.mp
  have e1 : (zl a >>> ((zi (n : Int)).toInt64 &&& 63)).toInt = a / 2 ^ n := by
    show ((zl a).toBitVec.sshiftRight' (((zi (n : Int)).toInt64 &&& 63).toBitVec.smod 64)).toInt = _
    rw [BitVec.sshiftRight_eq', zl_smk ⟨n, hn⟩, BitVec.toInt_sshiftRight]
    show (zl a).toInt >>> n = _
    rw [zl_in ha, Int.shiftRight_eq_div_pow]
    rfl
  rw [e1, Int.toNat_natCast, zl_in]
  have p1 : (0 : Int) < 2 ^ n := Int.pow_pos (by decide)
  by_cases h0 : 0 ≤ a
  · have h2 := Int.ediv_nonneg h0 (Int.le_of_lt p1)
    have h3 := Int.ediv_le_self (2 ^ n) h0
    omega
  · have h2 : a / 2 ^ n < 0 := Int.ediv_neg_of_neg_of_pos (by omega) p1
    have h3 : a ≤ a / 2 ^ n := Int.le_ediv_of_mul_le p1 (by
      have : a * 2 ^ n ≤ a * 1 := Int.mul_le_mul_of_nonpos_left (by omega) (by omega)
      omega)
    omega
/-- a product, by its bounds -/
theorem zx_s {a b A B : Int} (h1 : -A ≤ a) (h2 : a ≤ A) (h3 : -B ≤ b) (h4 : b ≤ B) : -(A * B) ≤ a * b ∧ a * b ≤ A * B := by
  have hA : a.natAbs ≤ A.toNat := by omega
  have hB : b.natAbs ≤ B.toNat := by omega
  have h5 : (a * b).natAbs ≤ A.toNat * B.toNat := by
    rw [Int.natAbs_mul]
    exact Nat.mul_le_mul hA hB
  have h6 : ((A.toNat * B.toNat : Nat) : Int) = A * B := by
    rw [Int.natCast_mul, Int.toNat_of_nonneg (by omega), Int.toNat_of_nonneg (by omega)]
  omega
theorem zt_b {x y : Int} (hy : 0 < y) : -(x.natAbs : Int) ≤ x.tdiv y ∧ x.tdiv y ≤ x.natAbs := by
  have h1 : (x.tdiv y).natAbs ≤ x.natAbs := by
    rw [Int.natAbs_tdiv]
    exact Nat.div_le_self _ _
  omega
theorem zt_m {x y : Int} (hy : 0 < y) : -(x.natAbs : Int) ≤ x.tmod y ∧ x.tmod y ≤ x.natAbs ∧ x.tmod y < y := by
  have h1 : (x.tmod y).natAbs ≤ x.natAbs := by
    rw [Int.natAbs_tmod]
    exact Nat.mod_le _ _
  have h2 : x.tmod y < y := Int.tmod_lt_of_pos x hy
  omega
section GLA
variable {P : Nat → Option gMt} {G : gG} {cn : Nat → Option Nat} {d : Nat} {t : gMt} {pc : Nat} {L : gL} {S : List Value} {h : gH} {F : gR → gL → Prop}
theorem gy_i2l {x : Int} (hlk : glk pc (gmC t) = some (.i2l, 1)) (hx : ¬ pc ∈ gmE t) (ha : -2147483648 ≤ x ∧ x < 2147483648) (k : gz P G cn d t (pc + 1) L (.long (zl x) :: S) h F) : gz P G cn d t pc L (.int (zi x) :: S) h F := by
  refine gz_0 hlk (fun q => q.elim (fun z => by cases z) hx) rfl ?_ k
  simp only [gst0, gI1]
  rw [if_pos trivial, zl_i2l ha]
theorem gy_l2i {x : Int} (hlk : glk pc (gmC t) = some (.l2i, 1)) (hx : ¬ pc ∈ gmE t) (k : gz P G cn d t (pc + 1) L (.int (zi x) :: S) h F) : gz P G cn d t pc L (.long (zl x) :: S) h F := by
  refine gz_0 hlk (fun q => q.elim (fun z => by cases z) hx) rfl ?_ k
  simp only [gst0, gL1]
  rw [if_pos trivial, zl_l2i]
theorem gy_lcmp {x y : Int} (hlk : glk pc (gmC t) = some (.lcmp, 1)) (hx : ¬ pc ∈ gmE t) (ha : -9223372036854775808 ≤ x ∧ x < 9223372036854775808) (hb : -9223372036854775808 ≤ y ∧ y < 9223372036854775808) (k : ∀ z : Int, (x < y ↔ z = -1) → (x = y ↔ z = 0) → (y < x ↔ z = 1) → gz P G cn d t (pc + 1) L (.int (zi z) :: S) h F) : gz P G cn d t pc L (.long (zl y) :: .long (zl x) :: S) h F := by
  obtain ⟨z, e, h1, h2, h3⟩ := zl_cmp ha hb
  refine gz_0 hlk (fun q => q.elim (fun z => by cases z) hx) rfl (pc' := pc + 1) (L' := L) (S' := .int (zi z) :: S) ?_ (k z h1 h2 h3)
  simp only [gst0]
  rw [if_pos trivial, e]
theorem gy_lany {x : Int64} (k : ∀ z : Int, x = zl z → -9223372036854775808 ≤ z → z ≤ 9223372036854775807 → gz P G cn d t pc L (.long (zl z) :: S) h F) : gz P G cn d t pc L (.long x :: S) h F := by
  have := k x.toInt (zl_to x).symm (zl_rt x).1 (by have := (zl_rt x).2; omega)
  rw [zl_to] at this
  exact this
/-- a shift to the right, by its bounds alone -/
theorem gy_lshr {x y : Int} (hlk : glk pc (gmC t) = some (.lshr, 1)) (hx : ¬ pc ∈ gmE t) (ha : -9223372036854775808 ≤ x ∧ x < 9223372036854775808) (hb : 0 ≤ y ∧ y < 64) (k : ∀ z : Int, z = x / 2 ^ y.toNat → (0 ≤ x → 0 ≤ z ∧ z ≤ x) → (x < 0 → x ≤ z ∧ z < 0) → gz P G cn d t (pc + 1) L (.long (zl z) :: S) h F) : gz P G cn d t pc L (.int (zi y) :: .long (zl x) :: S) h F := by
  refine gz_0 hlk (fun q => q.elim (fun z => by cases z) hx) rfl (pc' := pc + 1) (L' := L) (S' := .long (zl (x / 2 ^ y.toNat)) :: S) ?_ (k _ rfl (fun h0 => ?_) (fun h0 => ?_))
  · simp only [gst0, gLI]
    rw [if_pos trivial, zl_shr ha hb]
  · exact ⟨Int.ediv_nonneg h0 (Int.le_of_lt (Int.pow_pos (by decide))), Int.ediv_le_self _ h0⟩
  · have p1 : (0 : Int) < 2 ^ y.toNat := Int.pow_pos (by decide)
    refine ⟨?_, Int.ediv_neg_of_neg_of_pos h0 p1⟩
    exact Int.le_ediv_of_mul_le p1 (by
      have : x * 2 ^ y.toNat ≤ x * 1 := Int.mul_le_mul_of_nonpos_left (by omega) (by omega)
      omega)
/-- what a long and an int give, whatever it is -/
theorem gy_liv {I : Instr} {f : Int64 → Int32 → Int64} {x : Int64} {y : Int32} (hlk : glk pc (gmC t) = some (I, 1)) (hx : ¬ (gexit I = true ∨ pc ∈ gmE t)) (hci : gci I = none) (hI : ∀ (L : gL) (S : List Value), gst0 I 1 pc L S = gLI 1 pc L S f) (k : ∀ z : Int, f x y = zl z → -9223372036854775808 ≤ z → z ≤ 9223372036854775807 → gz P G cn d t (pc + 1) L (.long (zl z) :: S) h F) : gz P G cn d t pc L (.int y :: .long x :: S) h F := by
  refine gz_0 hlk hx hci (pc' := pc + 1) (L' := L) (S' := .long (f x y) :: S) ?_ (gy_lany (fun z e a b => k z e a b))
  rw [hI]
  rfl
theorem gy_llv {I : Instr} {f : Int64 → Int64 → Int64} {x : Int64} {y : Int64} (hlk : glk pc (gmC t) = some (I, 1)) (hx : ¬ (gexit I = true ∨ pc ∈ gmE t)) (hci : gci I = none) (hI : ∀ (L : gL) (S : List Value), gst0 I 1 pc L S = gLL 1 pc L S f) (k : ∀ z : Int, f x y = zl z → -9223372036854775808 ≤ z → z ≤ 9223372036854775807 → gz P G cn d t (pc + 1) L (.long (zl z) :: S) h F) : gz P G cn d t pc L (.long y :: .long x :: S) h F := by
  refine gz_0 hlk hx hci (pc' := pc + 1) (L' := L) (S' := .long (f x y) :: S) ?_ (gy_lany (fun z e a b => k z e a b))
  rw [hI]
  rfl
theorem gy_ldiv {x y : Int} (hlk : glk pc (gmC t) = some (.ldiv, 1)) (hx : ¬ pc ∈ gmE t) (ha : 0 ≤ x ∧ x < 9223372036854775808) (hb : 0 < y ∧ y < 9223372036854775808) (k : gz P G cn d t (pc + 1) L (.long (zl (x / y)) :: S) h F) : gz P G cn d t pc L (.long (zl y) :: .long (zl x) :: S) h F :=
  gz_ldiv hlk hx (fun e => by have := (zl_inj (a := y) (b := 0) (by omega) (by omega)).mp e; omega) (by rw [zl_dvn ha hb]; exact k)
/-- a quotient, by its bounds -/
theorem gy_dvv {x y : Int} (hlk : glk pc (gmC t) = some (.idiv, 1)) (hx : ¬ pc ∈ gmE t) (ha : -2147483648 ≤ x ∧ x < 2147483648) (hb : 0 < y ∧ y < 2147483648) (k : ∀ z : Int, z = x.tdiv y → (0 ≤ x → 0 ≤ z ∧ z ≤ x) → (x ≤ 0 → x ≤ z ∧ z ≤ 0) → gz P G cn d t (pc + 1) L (.int (zi z) :: S) h F) : gz P G cn d t pc L (.int (zi y) :: .int (zi x) :: S) h F := by
  have hz := zt_b (x := x) hb.1
  refine gz_div hlk hx (fun e => by have := (zi_inj (a := y) (b := 0) (by omega) (by omega)).mp e; omega) ?_
  rw [zi_div ha (by omega)]
  refine k _ rfl (fun h0 => ⟨Int.tdiv_nonneg h0 (by omega), by omega⟩) (fun h0 => ⟨by omega, ?_⟩)
  have := Int.tdiv_nonneg (a := -x) (b := y) (by omega) (by omega)
  rw [Int.neg_tdiv] at this
  omega
theorem gy_rmv {x y : Int} (hlk : glk pc (gmC t) = some (.irem, 1)) (hx : ¬ pc ∈ gmE t) (ha : -2147483648 ≤ x ∧ x < 2147483648) (hb : 0 < y ∧ y < 2147483648) (k : ∀ z : Int, z = x.tmod y → (0 ≤ x → 0 ≤ z ∧ z < y ∧ z ≤ x) → (x ≤ 0 → x ≤ z ∧ z ≤ 0) → gz P G cn d t (pc + 1) L (.int (zi z) :: S) h F) : gz P G cn d t pc L (.int (zi y) :: .int (zi x) :: S) h F := by
  have hz := zt_m (x := x) hb.1
  refine gz_rem hlk hx (fun e => by have := (zi_inj (a := y) (b := 0) (by omega) (by omega)).mp e; omega) ?_
  have e1 : zi x - zi x / zi y * zi y = zi (x.tmod y) := by
    rw [zi_div ha (by omega), zi_mul, zi_sub]
    congr 1
    have h1 := Int.tmod_add_mul_tdiv x y
    have h2 : x.tdiv y * y = y * x.tdiv y := Int.mul_comm _ _
    omega
  rw [e1]
  refine k _ rfl (fun h0 => ⟨Int.tmod_nonneg y h0, by omega, by omega⟩) (fun h0 => ⟨by omega, ?_⟩)
  have := Int.tmod_nonneg (a := -x) y (by omega)
  rw [Int.neg_tmod] at this
  omega
end GLA
/-- single kinds: one cell each -/
def gUq (ty : Nat → Nat) : Prop := ∀ a b, ty a = ty b → 1 ≤ ty a → ty a < 100 → a = b
theorem gEl.set {ty : Nat → Nat} {h : gH} {q c : Nat} {i z : Int} (uq : gUq ty) (ht : ty c = q) (hq : 1 ≤ q ∧ q < 100) (e : h.2.2.2.2 c i.toNat = .int (zi z)) (h1 : -2147483648 ≤ z) (h2 : z ≤ 2147483647) : gEl ty q i z z h := by
  intro c2 z2 ht2 e2 a b
  have hc : c2 = c := uq c2 c (ht2.trans ht.symm) (by rw [ht2]; exact hq.1) (by rw [ht2]; exact hq.2)
  rw [hc, e] at e2
  have := (zi_inj (a := z) (b := z2) (by omega) (by omega)).mp (Value.int.inj e2)
  omega
theorem gEl.ot {ty : Nat → Nat} {h h' : gH} {q c : Nat} {i j lo hi : Int} (f : ∀ x n, ¬ (x = c ∧ n = i.toNat) → h'.2.2.2.2 x n = h.2.2.2.2 x n) (e : gEl ty q j lo hi h) (hj : j.toNat ≠ i.toNat) : gEl ty q j lo hi h' := fun x z hx hc u v => e x z hx (by rw [← f x _ (fun w => hj w.2)]; exact hc) u v
/-- a / b, upward -/
def zup (a b : Int) : Int := if a % b = 0 then a / b else a / b + 1
theorem zup_b {a b : Int} (ha : 0 ≤ a) (hb : 0 < b) : 0 ≤ zup a b ∧ a ≤ b * zup a b ∧ b * zup a b < a + b := by
  have h1 := Int.emod_add_mul_ediv a b
  have h2 := Int.emod_nonneg a (by omega : b ≠ 0)
  have h3 := Int.emod_lt_of_pos a hb
  have h4 := Int.ediv_nonneg ha (by omega : (0 : Int) ≤ b)
  unfold zup
  split
  · omega
  · rw [Int.mul_add, Int.mul_one]
    omega
theorem gs_alx {P : Nat → Option gMt} {G : gG} {cn : Nat → Option Nat} {d : Nat} {t : gMt} {pc : Nat} {L : gL} {S : List Value} {h : gH} {F : gR → gL → Prop} {T : Nat → Option gRg} {ty : Nat → Nat} {c q : Nat} {r : gRg} {lo hi i v : Int} (hlk : glk pc (gmC t) = some (.iaload, 1)) (hx : ¬ pc ∈ gmE t) (hJ : gJ T G.2.2.2.2 ty h) (ht : ty c = q) (hT : T q = some r) (hr : r.1 = .inl 0) (h9 : G.1[0]? = some .int) (hm : r.2.2.1 ≤ 1000000) (hs : ∀ j, r.2.2.2 j = (0, lo, hi)) (hi0 : 0 ≤ i) (hi1 : i < h.2.2.2.1 c) (hb : -2147483648 ≤ lo ∧ hi ≤ 2147483647) (el : gEl ty q i v v h)
    (kk : h.2.2.2.2 c i.toNat = .int (zi v) → lo ≤ v → v ≤ hi → gz P G cn d t (pc + 1) L (.int (zi v) :: S) h F) : gz P G cn d t pc L (.int (zi i) :: .ref c :: S) h F :=
  gs_ald hlk hx hJ ht hT hr h9 hm hs hi0 hi1 (fun z e a b => by
    have e1 := el c z ht e (by omega) (by omega)
    have e2 : z = v := by omega
    rw [e2] at e a b ⊢
    exact kk e a b)
/-- what is there is one -/
theorem gEl.un {T : Nat → Option gRg} {n0 : Nat} {ty : Nat → Nat} {h : gH} {m k q : Nat} {r1 r : gRg} {lo hi i a b : Int} (hJ : gJ T n0 ty h) (tm : ty m = 1) (hT1 : T 1 = some r1) (hr1 : gIn r1 (h.2.2.2.1 m) k) (hk : r1.2.2.2 k = (2, (q : Int), 0)) (hT : T q = some r) (hr : r.1 = .inl 0) (hs : ∀ j, r.2.2.2 j = (0, lo, hi)) (hb : -2147483648 ≤ lo ∧ hi ≤ 2147483647) (hi0 : 0 ≤ i) (hi1 : i < r.2.1) (e1 : gEl ty q i a a h) (e2 : gEl ty q i b b h) : a = b := by
  obtain ⟨-, -, -, -, -, x6⟩ := hJ m r1 (by rw [tm]; exact hT1)
  have x7 := x6 k hr1
  rw [hk] at x7
  obtain ⟨c, e, hc⟩ := x7
  have hc' : ty c = q := hc
  obtain ⟨-, -, -, y4, -, y6⟩ := hJ c r (by rw [hc']; exact hT)
  have y7 := y6 i.toNat (by unfold gIn; rw [hr]; show i.toNat < _; omega)
  rw [hs] at y7
  obtain ⟨z, e, u, v⟩ := y7
  have u' : lo ≤ z := u
  have v' : z ≤ hi := v
  have := e1 c z hc' e (by omega) (by omega)
  have := e2 c z hc' e (by omega) (by omega)
  omega
theorem gJ.ref {G : gG} {T : Nat → Option gRg} {ty : Nat → Nat} {h : gH} {c k q ci q2 : Nat} {r : gRg} {z0 : Int} (hJ : gJ T G.2.2.2.2 ty h) (ht : ty c = q) (hT : T q = some r) (hr : r.1 = .inr ci) (hs : r.2.2.2 k = (2, (q2 : Int), z0)) : ∃ a : Nat, h.2.2.2.2 c k = .ref a ∧ ty a = q2 := by
  obtain ⟨-, -, -, -, -, x6⟩ := hJ c r (by rw [ht]; exact hT)
  have x7 := x6 k (by unfold gIn; rw [hr]; trivial)
  rw [hs] at x7
  obtain ⟨a, e, ha⟩ := x7
  exact ⟨a, e, ha⟩
theorem zup8 {w wd : Int} (h1 : 1 ≤ w ∧ w ≤ 64) (h2 : 1 ≤ wd ∧ wd ≤ 2) : 1 ≤ zup w (8 * wd) ∧ zup w (8 * wd) ≤ 8 := by
  rcases (by omega : wd = 1 ∨ wd = 2) with e | e <;> subst e
  · show 1 ≤ zup w 8 ∧ zup w 8 ≤ 8
    unfold zup
    omega
  · show 1 ≤ zup w 16 ∧ zup w 16 ≤ 8
    unfold zup
    omega
theorem zupC {w wd hb : Int} (h1 : 1 ≤ w ∧ w ≤ 64) (h2 : wd ≤ 2) (h3 : 1 ≤ hb) (h4 : hb ≤ wd) : 1 ≤ zup w (8 * wd) * hb ∧ zup w (8 * wd) * hb ≤ 8 ∧ 1 ≤ zup (zup (w * hb) wd) 8 ∧ zup (zup (w * hb) wd) 8 ≤ zup w (8 * wd) * hb ∧ 0 ≤ zup (w * hb) wd ∧ zup (w * hb) wd ≤ 128 ∧ 1 ≤ w * hb ∧ w * hb ≤ 128 := by
  rcases (by omega : (wd = 1 ∧ hb = 1) ∨ (wd = 2 ∧ hb = 1) ∨ (wd = 2 ∧ hb = 2)) with ⟨e, e2⟩ | ⟨e, e2⟩ | ⟨e, e2⟩ <;> subst e <;> subst e2
  · show 1 ≤ zup w 8 * 1 ∧ zup w 8 * 1 ≤ 8 ∧ 1 ≤ zup (zup (w * 1) 1) 8 ∧ zup (zup (w * 1) 1) 8 ≤ zup w 8 * 1 ∧ 0 ≤ zup (w * 1) 1 ∧ zup (w * 1) 1 ≤ 128 ∧ 1 ≤ w * 1 ∧ w * 1 ≤ 128
    unfold zup
    omega
  · show 1 ≤ zup w 16 * 1 ∧ zup w 16 * 1 ≤ 8 ∧ 1 ≤ zup (zup (w * 1) 2) 8 ∧ zup (zup (w * 1) 2) 8 ≤ zup w 16 * 1 ∧ 0 ≤ zup (w * 1) 2 ∧ zup (w * 1) 2 ≤ 128 ∧ 1 ≤ w * 1 ∧ w * 1 ≤ 128
    unfold zup
    omega
  · show 1 ≤ zup w 16 * 2 ∧ zup w 16 * 2 ≤ 8 ∧ 1 ≤ zup (zup (w * 2) 2) 8 ∧ zup (zup (w * 2) 2) 8 ≤ zup w 16 * 2 ∧ 0 ≤ zup (w * 2) 2 ∧ zup (w * 2) 2 ≤ 128 ∧ 1 ≤ w * 2 ∧ w * 2 ≤ 128
    unfold zup
    omega
/-- sums of counts -/
def gvI : Value → Int
  | .int v => v.toInt
  | _ => 0
def gsm (h : gH) (c : Nat) : Nat → Int
  | 0 => 0
  | k + 1 => gsm h c k + gvI (h.2.2.2.2 c (k + 1))
def gS (h : gH) (c : Nat) (b : Int) : Int := gsm h c (b - 1).toNat
theorem gsm_cg {h h' : gH} {c : Nat} : ∀ {k : Nat}, (∀ j, j ≤ k → h'.2.2.2.2 c j = h.2.2.2.2 c j) → gsm h' c k = gsm h c k
  | 0, _ => rfl
  | k + 1, e => by
    show gsm h' c k + gvI (h'.2.2.2.2 c (k + 1)) = gsm h c k + gvI (h.2.2.2.2 c (k + 1))
    rw [gsm_cg (k := k) (fun j hj => e j (by omega)), e (k + 1) (by omega)]
theorem gS_st {h : gH} {c : Nat} {b z : Int} (hb : 1 ≤ b) (e : h.2.2.2.2 c b.toNat = .int (zi z)) (hz : -2147483648 ≤ z ∧ z < 2147483648) : gS h c (b + 1) = gS h c b + z := by
  obtain ⟨n, hn⟩ := Int.eq_ofNat_of_zero_le (show 0 ≤ b - 1 by omega)
  obtain rfl : b = (n : Int) + 1 := by omega
  unfold gS
  have e1 : ((n : Int) + 1 + 1 - 1).toNat = n + 1 := by omega
  have e2 : ((n : Int) + 1 - 1).toNat = n := by omega
  have e3 : ((n : Int) + 1).toNat = n + 1 := by omega
  rw [e1, e2]
  show gsm h c n + gvI (h.2.2.2.2 c (n + 1)) = _
  rw [← e3, e]
  show gsm h c n + (zi z).toInt = _
  rw [zi_in hz]
theorem gS_mono {h : gH} {c : Nat} (hp : ∀ j, j ≤ 16 → 0 ≤ gvI (h.2.2.2.2 c j)) : ∀ {k n : Nat}, k ≤ n → n ≤ 16 → gsm h c k ≤ gsm h c n
  | k, 0, h1, _ => by
    obtain rfl : k = 0 := by omega
    exact Int.le_refl _
  | k, n + 1, h1, h2 => by
    by_cases e : k = n + 1
    · rw [e]; exact Int.le_refl _
    · have g1 := gS_mono hp (k := k) (n := n) (by omega) (by omega)
      have g2 := hp (n + 1) h2
      show gsm h c k ≤ gsm h c n + gvI _
      omega
theorem gS_le {h : gH} {c : Nat} {b : Int} (hp : ∀ j, j ≤ 16 → 0 ≤ gvI (h.2.2.2.2 c j)) (h1 : 1 ≤ b) (h2 : b ≤ 17) : 0 ≤ gS h c b ∧ gS h c b ≤ gsm h c 16 := ⟨gS_mono hp (k := 0) (by omega) (by omega), gS_mono hp (by omega) (by omega)⟩
theorem gS_put {h h' : gH} {c : Nat} {k z : Int} (f : ∀ b j, ¬ (b = c ∧ j = k.toNat) → h'.2.2.2.2 b j = h.2.2.2.2 b j) (e : h'.2.2.2.2 c k.toNat = .int (zi z)) (h0 : 0 ≤ k) (hz : -2147483648 ≤ z ∧ z < 2147483648) : gS h' c (k + 1) = if k = 0 then 0 else gS h c k + z := by
  by_cases hk : k = 0
  · rw [if_pos hk, hk]
    rfl
  · rw [if_neg hk, gS_st (by omega) e hz]
    congr 1
    exact gsm_cg (fun j hj => f c j (fun q => by omega))
/-- a row as it was -/
def gSame (c : Nat) (h0 h : gH) : Prop := ∀ k, h.2.2.2.2 c k = h0.2.2.2.2 c k
theorem gJ.nn {T : Nat → Option gRg} {n0 : Nat} {ty : Nat → Nat} {h : gH} {c q : Nat} {r : gRg} {hi : Int} (hJ : gJ T n0 ty h) (ht : ty c = q) (hT : T q = some r) (hr : r.1 = .inl 0) (hs : ∀ j, r.2.2.2 j = (0, 0, hi)) (hb : hi < 2147483648) (hl : 17 ≤ r.2.1) : ∀ j, j ≤ 16 → 0 ≤ gvI (h.2.2.2.2 c j) := by
  intro j hj
  obtain ⟨-, -, -, x4, -, x6⟩ := hJ c r (by rw [ht]; exact hT)
  have x7 := x6 j (by unfold gIn; rw [hr]; show j < _; omega)
  rw [hs] at x7
  obtain ⟨z, e, a, b⟩ := x7
  have a' : 0 ≤ z := a
  have b' : z ≤ hi := b
  rw [e]
  show 0 ≤ (zi z).toInt
  rw [zi_in (by omega)]
  exact a'
theorem zsh_b {a n : Int} (ha : 0 ≤ a) : 0 ≤ a / 2 ^ n.toNat ∧ a / 2 ^ n.toNat ≤ a := ⟨Int.ediv_nonneg ha (Int.le_of_lt (Int.pow_pos (by decide))), Int.ediv_le_self _ ha⟩
theorem zq_b {N b : Int} (h0 : 0 ≤ N) (h1 : N ≤ 274877906944) (h2 : 67108864 ≤ b) : 0 ≤ (N + b) / (2 * b) ∧ (N + b) / (2 * b) ≤ 2048 := by
  refine ⟨Int.ediv_nonneg (by omega) (by omega), ?_⟩
  have : (N + b) / (2 * b) < 2049 := Int.ediv_lt_of_lt_mul (by omega) (by omega)
  omega
theorem zb4 {x w wd hb : Int} (h0 : 0 ≤ x) (h1 : x < w) (h2 : wd ≤ 2) (h3 : 1 ≤ hb) (h4 : hb ≤ wd) : 0 ≤ x * hb / wd ∧ x * hb / wd / 8 < zup w (8 * wd) * hb := by
  rcases (by omega : (wd = 1 ∧ hb = 1) ∨ (wd = 2 ∧ hb = 1) ∨ (wd = 2 ∧ hb = 2)) with ⟨e, e2⟩ | ⟨e, e2⟩ | ⟨e, e2⟩ <;> subst e <;> subst e2
  · show 0 ≤ x * 1 / 1 ∧ x * 1 / 1 / 8 < zup w 8 * 1
    unfold zup
    omega
  · show 0 ≤ x * 1 / 2 ∧ x * 1 / 2 / 8 < zup w 16 * 1
    unfold zup
    omega
  · show 0 ≤ x * 2 / 2 ∧ x * 2 / 2 / 8 < zup w 16 * 2
    unfold zup
    omega
theorem zb5 {C R f i j : Int} (h0 : 0 ≤ i) (h1 : i < C) (h2 : 0 ≤ j) (h3 : j < R) (h4 : 0 ≤ f) (h5 : f + C * R ≤ 192) : 0 ≤ C * j ∧ C * j ≤ 192 ∧ f + C * j + i ≤ 191 := by
  have g5 : C * j ≤ C * (R - 1) := Int.mul_le_mul_of_nonneg_left (by omega) (by omega)
  have g6 : C * (R - 1) = C * R - C := by rw [Int.mul_sub, Int.mul_one]
  have g7 : 0 ≤ C * j := Int.mul_nonneg (by omega) h2
  omega
/-- 1 moved to the left, exactly -/
theorem gy_sh1x {P : Nat → Option gMt} {G : gG} {cn : Nat → Option Nat} {d : Nat} {t : gMt} {pc : Nat} {L : gL} {S : List Value} {h : gH} {F : gR → gL → Prop} {y : Int} (hlk : glk pc (gmC t) = some (.ishl, 1)) (hx : ¬ pc ∈ gmE t) (hb : 0 ≤ y ∧ y < 31) (k : (1 : Int) ≤ 2 ^ y.toNat → (2 : Int) ^ y.toNat ≤ 1073741824 → gz P G cn d t (pc + 1) L (.int (zi (2 ^ y.toNat)) :: S) h F) : gz P G cn d t pc L (.int (zi y) :: .int (zi 1) :: S) h F := by
  obtain ⟨n, rfl⟩ := Int.eq_ofNat_of_zero_le hb.1
  have hn : n < 31 := by omega
  refine gz_0 hlk (fun q => q.elim (fun z => by cases z) hx) rfl (pc' := pc + 1) (L' := L) (S' := .int (zi (2 ^ n)) :: S) ?_ (k ?_ ?_)
  · simp only [gst0, gII]
    rw [if_pos trivial, zi_pow ⟨n, hn⟩]
  · exact Int.pow_pos (by decide)
  · have h1 : (2 : Nat) ^ n ≤ 2 ^ 30 := Nat.pow_le_pow_right (by decide) (by omega)
    have h2 : ((2 ^ n : Nat) : Int) ≤ ((2 ^ 30 : Nat) : Int) := Int.ofNat_le.mpr h1
    show (2 : Int) ^ n ≤ _
    simpa using h2
