/-! ===== ints of the machine as whole numbers ===== -/
abbrev zi (a : Int) : Int32 := Int32.ofInt a
theorem zi_to (x : Int32) : zi x.toInt = x := Int32.ofInt_toInt x
theorem zr_to (x : Int32) : -2147483648 ≤ x.toInt ∧ x.toInt < 2147483648 := ⟨x.le_toInt, x.toInt_lt⟩
theorem zi_in {a : Int} (h : -2147483648 ≤ a ∧ a < 2147483648) : (zi a).toInt = a := Int32.toInt_ofInt_of_le h.1 h.2
theorem zi_inj {a b : Int} (ha : -2147483648 ≤ a ∧ a < 2147483648) (hb : -2147483648 ≤ b ∧ b < 2147483648) : zi a = zi b ↔ a = b :=
  ⟨fun h => by rw [← zi_in ha, ← zi_in hb, h], fun h => by rw [h]⟩
theorem zi_lt {a b : Int} (ha : -2147483648 ≤ a ∧ a < 2147483648) (hb : -2147483648 ≤ b ∧ b < 2147483648) : zi a < zi b ↔ a < b := by
  rw [Int32.lt_iff_toInt_lt, zi_in ha, zi_in hb]
theorem zi_le {a b : Int} (ha : -2147483648 ≤ a ∧ a < 2147483648) (hb : -2147483648 ≤ b ∧ b < 2147483648) : zi a ≤ zi b ↔ a ≤ b := by
  rw [Int32.le_iff_toInt_le, zi_in ha, zi_in hb]
theorem zi_add (a b : Int) : zi a + zi b = zi (a + b) := (Int32.ofInt_add a b).symm
theorem zi_sub (a b : Int) : zi a - zi b = zi (a - b) := (Int32.ofInt_sub a b).symm
theorem zi_mul (a b : Int) : zi a * zi b = zi (a * b) := (Int32.ofInt_mul a b).symm
theorem zi_neg (a : Int) : -zi a = zi (-a) := (Int32.ofInt_neg a).symm
theorem zi_div {a b : Int} (ha : -2147483648 ≤ a ∧ a < 2147483648) (hb : -2147483648 ≤ b ∧ b < 2147483648) : zi a / zi b = zi (a.tdiv b) :=
  (Int32.ofInt_tdiv (a := a) (b := b) ha.1 (Int.le_of_lt_add_one ha.2) hb.1 (Int.le_of_lt_add_one hb.2)).symm
/-- a test of two ints -/
def zc (c : ClassFile.Cond) (a b : Int) : Prop := match c with
  | .eq => a = b
  | .ne => ¬ a = b
  | .lt => a < b
  | .ge => b ≤ a
  | .gt => b < a
  | .le => a ≤ b
theorem zh_T {c : ClassFile.Cond} {a b : Int} (ha : -2147483648 ≤ a ∧ a < 2147483648) (hb : -2147483648 ≤ b ∧ b < 2147483648) (h : zc c a b) : gholds c (zi a) (zi b) = true := by
  cases c <;> simp only [zc] at h <;> simp only [gholds, decide_eq_true_eq]
  · rw [h]
  · exact fun e => h ((zi_inj ha hb).mp e)
  · exact (zi_lt ha hb).mpr h
  · exact (zi_le hb ha).mpr h
  · exact (zi_lt hb ha).mpr h
  · exact (zi_le ha hb).mpr h
theorem zh_F {c : ClassFile.Cond} {a b : Int} (ha : -2147483648 ≤ a ∧ a < 2147483648) (hb : -2147483648 ≤ b ∧ b < 2147483648) (h : ¬ zc c a b) : gholds c (zi a) (zi b) = false := by
  cases c <;> simp only [zc] at h <;> simp only [gholds, decide_eq_false_iff_not]
  · exact fun e => h ((zi_inj ha hb).mp e)
  · exact fun e => h (fun q => e (by rw [q]))
  · exact fun e => h ((zi_lt ha hb).mp e)
  · exact fun e => h ((zi_le hb ha).mp e)
  · exact fun e => h ((zi_lt hb ha).mp e)
  · exact fun e => h ((zi_le ha hb).mp e)
theorem zi_nat {a : Int} (h0 : 0 ≤ a) (h1 : a < 2147483648) : (zi a).toNatClampNeg = a.toNat := by
  rw [Int32.toNatClampNeg_ofInt_of_le (by omega) h1]
theorem zi_gin {a : Int} {n : Nat} (h0 : 0 ≤ a) (h1 : a < n) (h2 : n ≤ 2147483648) : gin (zi a) n = true := by
  unfold gin
  rw [zi_nat h0 (by omega)]
  simp only [Bool.and_eq_true, decide_eq_true_eq]
  refine ⟨?_, by omega⟩
  have : zi 0 ≤ zi a := (zi_le (by omega) (by omega)).mpr h0
  exact this
theorem zi_nI (n : Nat) : nI n = zi n := by
  rw [nI]
  exact Int32.ofInt_eq_ofNat.symm
section GY
variable {P : Nat → Option gMt} {G : gG} {cn : Nat → Option Nat} {d : Nat} {t : gMt} {pc pc' : Nat} {L L' : gL} {S S' S2 : List Value} {h h' : gH} {F : gR → gL → Prop} {I : Instr} {len : Nat}
/-- a stretch, its stack written otherwise -/
theorem gy_s (n : Nat) {L2 : gL} (hs : gnk t n (pc, L, S) = some (pc', L', S')) (hL : L' = L2) (hS : S' = S2) (k : gz P G cn d t pc' L2 S2 h F) : gz P G cn d t pc L S h F := by
  subst hL; subst hS
  exact gz_s n hs k
theorem gy_icT {c : ClassFile.Cond} {off : Int} {x y : Int} (hlk : glk pc (gmC t) = some (.if_icmp c off, 3)) (hx : ¬ pc ∈ gmE t) (ht : (pc : Int) + off = (pc' : Int)) (ha : -2147483648 ≤ x ∧ x < 2147483648) (hb : -2147483648 ≤ y ∧ y < 2147483648) (hc : zc c x y) (k : gz P G cn d t pc' L S h F) : gz P G cn d t pc L (.int (zi y) :: .int (zi x) :: S) h F := gz_icT hlk hx ht (zh_T ha hb hc) k
theorem gy_icF {c : ClassFile.Cond} {off : Int} {x y : Int} (hlk : glk pc (gmC t) = some (.if_icmp c off, 3)) (hx : ¬ pc ∈ gmE t) (ht : 0 ≤ (pc : Int) + off) (ha : -2147483648 ≤ x ∧ x < 2147483648) (hb : -2147483648 ≤ y ∧ y < 2147483648) (hc : ¬ zc c x y) (k : gz P G cn d t (pc + 3) L S h F) : gz P G cn d t pc L (.int (zi y) :: .int (zi x) :: S) h F := gz_icF hlk hx ht (zh_F ha hb hc) k
theorem gy_ifT {c : ClassFile.Cond} {off : Int} {x : Int} (hlk : glk pc (gmC t) = some (.ifCond c off, 3)) (hx : ¬ pc ∈ gmE t) (ht : (pc : Int) + off = (pc' : Int)) (ha : -2147483648 ≤ x ∧ x < 2147483648) (hc : zc c x 0) (k : gz P G cn d t pc' L S h F) : gz P G cn d t pc L (.int (zi x) :: S) h F := gz_ifT hlk hx ht (zh_T (b := 0) ha (by omega) hc) k
theorem gy_ifF {c : ClassFile.Cond} {off : Int} {x : Int} (hlk : glk pc (gmC t) = some (.ifCond c off, 3)) (hx : ¬ pc ∈ gmE t) (ht : 0 ≤ (pc : Int) + off) (ha : -2147483648 ≤ x ∧ x < 2147483648) (hc : ¬ zc c x 0) (k : gz P G cn d t (pc + 3) L S h F) : gz P G cn d t pc L (.int (zi x) :: S) h F := gz_ifF hlk hx ht (zh_F (b := 0) ha (by omega) hc) k
theorem gy_iald {a u : Nat} {i : Int} {v : Value} (hlk : glk pc (gmC t) = some (.iaload, 1)) (hx : ¬ pc ∈ gmE t) (h1 : a < h.1) (hk : h.2.2.1 a = some (.inl u)) (hty : G.1[u]? = some .int) (hn : h.2.2.2.1 a ≤ 1000000) (hi0 : 0 ≤ i) (hi1 : i < h.2.2.2.1 a) (hv : h.2.2.2.2 a i.toNat = v) (kk : gz P G cn d t (pc + 1) L (v :: S) h F) : gz P G cn d t pc L (.int (zi i) :: .ref a :: S) h F :=
  gz_iald hlk hx h1 hk hty (zi_gin hi0 hi1 (by omega)) (by rw [zi_nat hi0 (by omega)]; exact hv) kk
theorem gy_iast {a u : Nat} {j : Int} {x : Int32} (hlk : glk pc (gmC t) = some (.iastore, 1)) (hx : ¬ pc ∈ gmE t) (h0 : G.2.2.2.2 ≤ a) (h1 : a < h.1) (hk : h.2.2.1 a = some (.inl u)) (hty : G.1[u]? = some .int) (hn : h.2.2.2.1 a ≤ 1000000) (hi0 : 0 ≤ j) (hi1 : j < h.2.2.2.1 a) (kk : gz P G cn d t (pc + 1) L S (gput h a j.toNat (.int x)) F) : gz P G cn d t pc L (.int x :: .int (zi j) :: .ref a :: S) h F :=
  gz_iast hlk hx h0 h1 hk hty (zi_gin hi0 hi1 (by omega)) (by rw [zi_nat hi0 (by omega)]; exact kk)
theorem gcal_of {k idx y : Nat} {t' : gMt} {vs rest : List Value} (hT : gmT t idx = some (k, y)) (hP : P y = some t') (ha : gargs k (gmA t') S = some (vs, rest)) (hl : (gsl vs).length ≤ gmL t') (hr : grecv G.2.2.2.2 k t' vs h = true) : gcal P G.2.2.2.2 t k idx S h = some (t', vs, rest) := by
  unfold gcal
  rw [hT]
  dsimp only
  rw [if_pos rfl, hP]
  dsimp only
  rw [ha]
  dsimp only
  rw [if_pos ⟨hl, hr⟩]
theorem grecv_of {n0 b : Nat} {t' : gMt} {vs : List Value} (h0 : n0 ≤ b) (h1 : b < h.1) (hk : h.2.2.1 b = some (.inr (gmO t'))) : grecv n0 1 t' (.ref b :: vs) h = true := by
  unfold grecv
  rw [if_pos rfl]
  simp only [Bool.and_eq_true, decide_eq_true_eq]
  exact ⟨⟨h0, h1⟩, hk⟩
end GY
