/-! ===== rows of booleans and bytes; answers that are bytes ===== -/
section GSB
variable {P : Nat → Option gMt} {G : gG} {cn : Nat → Option Nat} {d : Nat} {t : gMt} {pc pc' : Nat} {L L' : gL} {S S' : List Value} {h0 h : gH} {F : gR → gL → Prop} {I : Instr} {len : Nat}
variable {T : Nat → Option gRg} {ty : Nat → Nat} {l : List Nat} {c k q ci idx : Nat} {r : gRg}
theorem gs_bald {u : Nat} {lo hi i : Int} (hlk : glk pc (gmC t) = some (.baload, 1)) (hx : ¬ pc ∈ gmE t) (hJ : gJ T G.2.2.2.2 ty h) (ht : ty c = q) (hT : T q = some r) (hr : r.1 = .inl u) (h9 : G.1[u]? = some .byte ∨ G.1[u]? = some .boolean) (hm : r.2.2.1 ≤ 1000000) (hs : ∀ j, r.2.2.2 j = (0, lo, hi)) (hi0 : 0 ≤ i) (hi1 : i < h.2.2.2.1 c)
    (kk : ∀ z : Int, h.2.2.2.2 c i.toNat = .int (zi z) → lo ≤ z → z ≤ hi → gz P G cn d t (pc + 1) L (.int (zi z) :: S) h F) : gz P G cn d t pc L (.int (zi i) :: .ref c :: S) h F := by
  obtain ⟨x1, x2, x3, x4, x5, x6⟩ := hJ c r (by rw [ht]; exact hT)
  have x7 := x6 i.toNat (by unfold gIn; rw [hr]; show i.toNat < _; omega)
  rw [hs] at x7
  obtain ⟨z, e, a, b⟩ := x7
  exact gz_bald hlk hx x2 (by rw [x3, hr]) h9 (zi_gin hi0 hi1 (by omega)) (by rw [zi_nat hi0 (by omega)]; exact e) (kk z e a b)
theorem zi_a1 {z : Int} (hz : z = 0 ∨ z = 1) : zi z &&& 1 = zi z := by rcases hz with rfl | rfl <;> rfl
/-- a boolean is put into a row -/
theorem gs_zast {u : Nat} {lo hi i z : Int} (hlk : glk pc (gmC t) = some (.bastore, 1)) (hx : ¬ pc ∈ gmE t) (hS : gSs T G.2.2.2.2 ty l h0 h) (ht : ty c = q) (hT : T q = some r) (hr : r.1 = .inl u) (h9 : G.1[u]? = some .boolean) (hm : r.2.2.1 ≤ 1000000) (hs : ∀ j, r.2.2.2 j = (0, lo, hi)) (hi0 : 0 ≤ i) (hi1 : i < h.2.2.2.1 c) (hl : ∀ j, gpl T q j ∈ l) (hz : z = 0 ∨ z = 1) (h1 : lo ≤ z) (h2 : z ≤ hi)
    (kk : ∀ h' : gH, gSs T G.2.2.2.2 ty l h0 h' → h'.2.2.2.2 c i.toNat = .int (zi z) → (∀ b j, ¬ (b = c ∧ j = i.toNat) → h'.2.2.2.2 b j = h.2.2.2.2 b j) → gz P G cn d t (pc + 1) L S h' F) : gz P G cn d t pc L (.int (zi z) :: .int (zi i) :: .ref c :: S) h F := by
  obtain ⟨x1, x2, x3, x4, x5, -⟩ := hS.1 c r (by rw [ht]; exact hT)
  have kk2 := kk _ (hS.put ht hT (k := i.toNat) (by rw [hs]; exact ⟨z, rfl, h1, h2⟩) (hl _)) gput_eq (fun b j hn => gput_ne hn)
  refine gz_1 hlk (fun q => q.elim (fun z => by cases z) hx) rfl rfl (pc' := pc + 1) (S' := S) (h' := gput h c i.toNat (.int (zi z))) ?_ kk2
  simp only [gst1, gxast, x3, hr, h9]
  rw [if_pos ⟨trivial, x1, x2, zi_gin hi0 hi1 (by omega)⟩, zi_nat hi0 (by omega), zi_a1 hz]
/-- a byte answer -/
theorem gfin_b {z : Int} (hlk : glk pc (gmC t) = some (.ireturn, 1)) (hr : gmR t = some .byte) (hz : (zi z).toInt8.toInt32 = zi z) : gfin t pc [.int (zi z)] = some (some (.int (zi z))) := by
  unfold gfin
  rw [hlk]
  show gret (gmR t) .ireturn 1 [.int (zi z)] = _
  rw [hr]
  show (if 1 = 1 ∧ (zi z).toInt8.toInt32 = zi z then some (some (Value.int (zi z))) else none) = _
  rw [if_pos ⟨rfl, hz⟩]
theorem zi_b8 (x : Int32) : ∃ z : Int, x.toInt8.toInt32 = zi z ∧ -128 ≤ z ∧ z ≤ 127 ∧ (zi z).toInt8.toInt32 = zi z := by
  refine ⟨x.toInt8.toInt, ?_, ?_, ?_, ?_⟩
  · exact (Int32.ofInt_int8ToInt x.toInt8).symm
  · exact x.toInt8.le_toInt
  · exact Int.le_of_lt_add_one x.toInt8.toInt_lt
  · show (Int32.ofInt x.toInt8.toInt).toInt8.toInt32 = Int32.ofInt x.toInt8.toInt
    rw [Int32.ofInt_int8ToInt]
    simp
/-- cut to a byte -/
theorem gy_i2b {x : Int32} (hlk : glk pc (gmC t) = some (.i2b, 1)) (hx : ¬ pc ∈ gmE t) (k : ∀ z : Int, -128 ≤ z → z ≤ 127 → (zi z).toInt8.toInt32 = zi z → gz P G cn d t (pc + 1) L (.int (zi z) :: S) h F) : gz P G cn d t pc L (.int x :: S) h F := by
  obtain ⟨z, e, a, b, e2⟩ := zi_b8 x
  refine gz_0 hlk (fun q => q.elim (fun z => by cases z) hx) rfl (pc' := pc + 1) (L' := L) (S' := .int (zi z) :: S) ?_ (k z a b e2)
  simp only [gst0, gI1]
  rw [if_pos trivial, e]
end GSB
/-- a product of numbers that aren't below 0 -/
theorem zx_f {a b A B : Int} (h1 : 0 ≤ a) (h2 : a ≤ A) (h3 : 0 ≤ b) (h4 : b ≤ B) : 0 ≤ a * b ∧ a * b ≤ A * B := ⟨Int.mul_nonneg h1 h3, Int.mul_le_mul h2 h4 h3 (by omega)⟩
/-- a local int, whatever it is -/
theorem gy_loc {P : Nat → Option gMt} {G : gG} {cn : Nat → Option Nat} {d : Nat} {t : gMt} {pc : Nat} {L : gL} {S : List Value} {h : gH} {F : gR → gL → Prop} {i : Nat} {x : Int32} (hi : L[i]? = some (some (.int x))) (k : ∀ z : Int, x = zi z → -2147483648 ≤ z → z ≤ 2147483647 → gz P G cn d t pc (L.set i (some (.int (zi z)))) S h F) : gz P G cn d t pc L S h F := by
  have h1 := k x.toInt (zi_to x).symm (zr_to x).1 (by have := (zr_to x).2; omega)
  rw [zi_to] at h1
  have h2 : L.set i (some (.int x)) = L := by
    apply List.ext_getElem?
    intro j
    rw [List.getElem?_set]
    split
    · rename_i e
      subst e
      have := (List.getElem?_eq_some_iff.mp hi).1
      rw [if_pos this, hi]
    · rfl
  rw [h2] at h1
  exact h1
