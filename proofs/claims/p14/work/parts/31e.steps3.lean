/-! ===== typed memory, more: lengths, rows of objects, bytes, longs, null, switches, fixed rows ===== -/
section GSC
variable {P : Nat → Option gMt} {G : gG} {cn : Nat → Option Nat} {d : Nat} {t : gMt} {pc pc' : Nat} {L L' : gL} {S S' : List Value} {h0 h : gH} {F : gR → gL → Prop} {I : Instr} {len : Nat}
variable {T : Nat → Option gRg} {ty : Nat → Nat} {l : List Nat} {c k q ci idx : Nat} {r : gRg}
theorem gs_len {u : Nat} {fty : FieldType} (hlk : glk pc (gmC t) = some (.arraylength, 1)) (hx : ¬ pc ∈ gmE t) (hJ : gJ T G.2.2.2.2 ty h) (ht : ty c = q) (hT : T q = some r) (hr : r.1 = .inl u) (h9 : G.1[u]? = some fty)
    (kk : ∀ z : Int, z = (h.2.2.2.1 c : Int) → (r.2.1 : Int) ≤ z → z ≤ (r.2.2.1 : Int) → gz P G cn d t (pc + 1) L (.int (zi z) :: S) h F) : gz P G cn d t pc L (.ref c :: S) h F := by
  obtain ⟨-, x2, x3, x4, x5, -⟩ := hJ c r (by rw [ht]; exact hT)
  refine gz_len hlk hx x2 (by rw [x3, hr]) h9 ?_
  rw [zi_nI]
  exact kk _ rfl (by omega) (by omega)
/-- an object of a row, at a known place -/
theorem gs_aal {u j q2 : Nat} {C : String} {z0 i : Int} (hlk : glk pc (gmC t) = some (.aaload, 1)) (hx : ¬ pc ∈ gmE t) (hJ : gJ T G.2.2.2.2 ty h) (ht : ty c = q) (hT : T q = some r) (hr : r.1 = .inl u) (h9 : G.1[u]? = some (.object C)) (hm : r.2.2.1 ≤ 1000000) (hij : i = (j : Int)) (hs : r.2.2.2 j = (2, (q2 : Int), z0)) (hj : j < r.2.1)
    (kk : ∀ a : Nat, h.2.2.2.2 c j = .ref a → ty a = q2 → gz P G cn d t (pc + 1) L (.ref a :: S) h F) : gz P G cn d t pc L (.int (zi i) :: .ref c :: S) h F := by
  subst hij
  obtain ⟨x1, x2, x3, x4, x5, x6⟩ := hJ c r (by rw [ht]; exact hT)
  have x7 := x6 j (by unfold gIn; rw [hr]; show j < _; omega)
  rw [hs] at x7
  obtain ⟨a, e, ha⟩ := x7
  refine gz_1 hlk (fun q => q.elim (fun z => by cases z) hx) rfl rfl (pc' := pc + 1) (S' := .ref a :: S) (h' := h) ?_ (kk a e ha)
  simp only [gst1, gxald, x3, hr, h9]
  rw [if_pos ⟨trivial, x2, trivial, zi_gin (by omega) (by omega) (by omega)⟩, zi_nat (by omega) (by omega), Int.toNat_natCast, e]
theorem gs_aak {u j : Nat} {C : String} {i : Int} {v : Value} (hlk : glk pc (gmC t) = some (.aaload, 1)) (hx : ¬ pc ∈ gmE t) (hJ : gJ T G.2.2.2.2 ty h) (ht : ty c = q) (hT : T q = some r) (hr : r.1 = .inl u) (h9 : G.1[u]? = some (.object C)) (hm : r.2.2.1 ≤ 1000000) (hij : i = (j : Int)) (hj : j < r.2.1) (hv : h.2.2.2.2 c j = v)
    (kk : gz P G cn d t (pc + 1) L (v :: S) h F) : gz P G cn d t pc L (.int (zi i) :: .ref c :: S) h F := by
  subst hij
  obtain ⟨x1, x2, x3, x4, x5, x6⟩ := hJ c r (by rw [ht]; exact hT)
  refine gz_1 hlk (fun q => q.elim (fun z => by cases z) hx) rfl rfl (pc' := pc + 1) (S' := v :: S) (h' := h) ?_ kk
  simp only [gst1, gxald, x3, hr, h9]
  rw [if_pos ⟨trivial, x2, trivial, zi_gin (by omega) (by omega) (by omega)⟩, zi_nat (by omega) (by omega), Int.toNat_natCast, hv]
/-- an object of a row of objects of one kind -/
theorem gs_aam {u q2 : Nat} {C : String} {z0 i : Int} (hlk : glk pc (gmC t) = some (.aaload, 1)) (hx : ¬ pc ∈ gmE t) (hJ : gJ T G.2.2.2.2 ty h) (ht : ty c = q) (hT : T q = some r) (hr : r.1 = .inl u) (h9 : G.1[u]? = some (.object C)) (hm : r.2.2.1 ≤ 1000000) (hs : ∀ j, r.2.2.2 j = (2, (q2 : Int), z0)) (hi0 : 0 ≤ i) (hi1 : i < h.2.2.2.1 c)
    (kk : ∀ a : Nat, h.2.2.2.2 c i.toNat = .ref a → ty a = q2 → gz P G cn d t (pc + 1) L (.ref a :: S) h F) : gz P G cn d t pc L (.int (zi i) :: .ref c :: S) h F := by
  obtain ⟨x1, x2, x3, x4, x5, x6⟩ := hJ c r (by rw [ht]; exact hT)
  have x7 := x6 i.toNat (by unfold gIn; rw [hr]; show i.toNat < _; omega)
  rw [hs] at x7
  obtain ⟨a, e, ha⟩ := x7
  refine gz_1 hlk (fun q => q.elim (fun z => by cases z) hx) rfl rfl (pc' := pc + 1) (S' := .ref a :: S) (h' := h) ?_ (kk a e ha)
  simp only [gst1, gxald, x3, hr, h9]
  rw [if_pos ⟨trivial, x2, trivial, zi_gin hi0 hi1 (by omega)⟩, zi_nat hi0 (by omega), e]
/-- a byte is put into a row -/
theorem gs_bast {lo hi i : Int} {x : Int32} (hlk : glk pc (gmC t) = some (.bastore, 1)) (hx : ¬ pc ∈ gmE t) (hS : gSs T G.2.2.2.2 ty l h0 h) (ht : ty c = q) (hT : T q = some r) (hr : r.1 = .inl 1) (h9 : G.1[1]? = some .byte) (hm : r.2.2.1 ≤ 1000000) (hs : ∀ j, r.2.2.2 j = (0, lo, hi)) (hlo : lo ≤ -128 ∧ 127 ≤ hi) (hi0 : 0 ≤ i) (hi1 : i < h.2.2.2.1 c) (hl : ∀ j, gpl T q j ∈ l)
    (kk : ∀ h' : gH, gSs T G.2.2.2.2 ty l h0 h' → (∀ b j, ¬ (b = c ∧ j = i.toNat) → h'.2.2.2.2 b j = h.2.2.2.2 b j) → gz P G cn d t (pc + 1) L S h' F) : gz P G cn d t pc L (.int x :: .int (zi i) :: .ref c :: S) h F := by
  obtain ⟨x1, x2, x3, x4, x5, -⟩ := hS.1 c r (by rw [ht]; exact hT)
  obtain ⟨z, e, a, b, -⟩ := zi_b8 x
  refine gz_bast hlk hx x1 x2 (by rw [x3, hr]) h9 (zi_gin hi0 hi1 (by omega)) ?_
  rw [zi_nat hi0 (by omega), e]
  exact kk _ (hS.put ht hT (k := i.toNat) (by rw [hs]; exact ⟨z, rfl, by show lo ≤ z; omega, by show z ≤ hi; omega⟩) (hl _)) (fun b j hn => gput_ne hn)
theorem gs_lald {lo hi i : Int} (hlk : glk pc (gmC t) = some (.laload, 1)) (hx : ¬ pc ∈ gmE t) (hJ : gJ T G.2.2.2.2 ty h) (ht : ty c = q) (hT : T q = some r) (hr : r.1 = .inl 2) (h9 : G.1[2]? = some .long) (hm : r.2.2.1 ≤ 1000000) (hs : ∀ j, r.2.2.2 j = (1, lo, hi)) (hi0 : 0 ≤ i) (hi1 : i < h.2.2.2.1 c)
    (kk : ∀ z : Int, h.2.2.2.2 c i.toNat = .long (zl z) → lo ≤ z → z ≤ hi → gz P G cn d t (pc + 1) L (.long (zl z) :: S) h F) : gz P G cn d t pc L (.int (zi i) :: .ref c :: S) h F := by
  obtain ⟨x1, x2, x3, x4, x5, x6⟩ := hJ c r (by rw [ht]; exact hT)
  have x7 := x6 i.toNat (by unfold gIn; rw [hr]; show i.toNat < _; omega)
  rw [hs] at x7
  obtain ⟨z, e, a, b⟩ := x7
  refine gz_1 hlk (fun q => q.elim (fun z => by cases z) hx) rfl rfl (pc' := pc + 1) (S' := .long (zl z) :: S) (h' := h) ?_ (kk z e a b)
  simp only [gst1, gxald, x3, hr, h9]
  rw [if_pos ⟨trivial, x2, rfl, zi_gin hi0 hi1 (by omega)⟩, zi_nat hi0 (by omega), e]
theorem gs_last {lo hi i z : Int} (hlk : glk pc (gmC t) = some (.lastore, 1)) (hx : ¬ pc ∈ gmE t) (hS : gSs T G.2.2.2.2 ty l h0 h) (ht : ty c = q) (hT : T q = some r) (hr : r.1 = .inl 2) (h9 : G.1[2]? = some .long) (hm : r.2.2.1 ≤ 1000000) (hs : ∀ j, r.2.2.2 j = (1, lo, hi)) (hi0 : 0 ≤ i) (hi1 : i < h.2.2.2.1 c) (hl : ∀ j, gpl T q j ∈ l) (h1 : lo ≤ z) (h2 : z ≤ hi)
    (kk : ∀ h' : gH, gSs T G.2.2.2.2 ty l h0 h' → h'.2.2.2.2 c i.toNat = .long (zl z) → (∀ b j, ¬ (b = c ∧ j = i.toNat) → h'.2.2.2.2 b j = h.2.2.2.2 b j) → gz P G cn d t (pc + 1) L S h' F) : gz P G cn d t pc L (.long (zl z) :: .int (zi i) :: .ref c :: S) h F := by
  obtain ⟨x1, x2, x3, x4, x5, -⟩ := hS.1 c r (by rw [ht]; exact hT)
  refine gz_last hlk hx x1 x2 (by rw [x3, hr]) h9 (zi_gin hi0 hi1 (by omega)) ?_
  rw [zi_nat hi0 (by omega)]
  exact kk _ (hS.put ht hT (k := i.toNat) (by rw [hs]; exact ⟨z, rfl, h1, h2⟩) (hl _)) gput_eq (fun b j hn => gput_ne hn)
/-- a field that may be null -/
theorem gs_nul {q2 : Nat} {z0 : Int} (hlk : glk pc (gmC t) = some (.getfield idx, 3)) (hx : ¬ pc ∈ gmE t) (hf : (gmK t).1 idx = some (ci, k)) (hJ : gJ T G.2.2.2.2 ty h) (ht : ty c = q) (hT : T q = some r) (hr : r.1 = .inr ci) (hs : r.2.2.2 k = (3, (q2 : Int), z0))
    (kn : h.2.2.2.2 c k = .null → gz P G cn d t (pc + 3) L (.null :: S) h F) (kk : ∀ a : Nat, h.2.2.2.2 c k = .ref a → ty a = q2 → gz P G cn d t (pc + 3) L (.ref a :: S) h F) : gz P G cn d t pc L (.ref c :: S) h F := by
  obtain ⟨x1, x2, x3, -, -, x6⟩ := hJ c r (by rw [ht]; exact hT)
  have x7 := x6 k (by unfold gIn; rw [hr]; trivial)
  rw [hs] at x7
  rcases x7 with e | ⟨a, e, ha⟩
  · exact gz_get hlk hx hf x1 x2 (by rw [x3, hr]) e (kn e)
  · exact gz_get hlk hx hf x1 x2 (by rw [x3, hr]) e (kk a e ha)
/-- a long field -/
theorem gs_getl {lo hi : Int} (hlk : glk pc (gmC t) = some (.getfield idx, 3)) (hx : ¬ pc ∈ gmE t) (hf : (gmK t).1 idx = some (ci, k)) (hJ : gJ T G.2.2.2.2 ty h) (ht : ty c = q) (hT : T q = some r) (hr : r.1 = .inr ci) (hs : r.2.2.2 k = (1, lo, hi))
    (kk : ∀ z : Int, h.2.2.2.2 c k = .long (zl z) → lo ≤ z → z ≤ hi → gz P G cn d t (pc + 3) L (.long (zl z) :: S) h F) : gz P G cn d t pc L (.ref c :: S) h F := by
  obtain ⟨x1, x2, x3, -, -, x6⟩ := hJ c r (by rw [ht]; exact hT)
  have x7 := x6 k (by unfold gIn; rw [hr]; trivial)
  rw [hs] at x7
  obtain ⟨z, e, a, b⟩ := x7
  exact gz_get hlk hx hf x1 x2 (by rw [x3, hr]) e (kk z e a b)
theorem gs_putl {lo hi z : Int} (hlk : glk pc (gmC t) = some (.putfield idx, 3)) (hx : ¬ pc ∈ gmE t) (hf : (gmK t).1 idx = some (ci, k)) (hS : gSs T G.2.2.2.2 ty l h0 h) (ht : ty c = q) (hT : T q = some r) (hr : r.1 = .inr ci) (hs : r.2.2.2 k = (1, lo, hi)) (hft : gfit (G.2.1 ci k) (.long (zl z)) = true) (hfin : G.2.2.1 ci k = false ∨ gmI t = some ci) (hl : gpl T q k ∈ l) (h1 : lo ≤ z) (h2 : z ≤ hi)
    (kk : ∀ h' : gH, gSs T G.2.2.2.2 ty l h0 h' → h'.2.2.2.2 c k = .long (zl z) → (∀ b j, ¬ (b = c ∧ j = k) → h'.2.2.2.2 b j = h.2.2.2.2 b j) → gz P G cn d t (pc + 3) L S h' F) : gz P G cn d t pc L (.long (zl z) :: .ref c :: S) h F := by
  obtain ⟨x1, x2, x3, -⟩ := hS.1 c r (by rw [ht]; exact hT)
  exact gz_put hlk hx hf x1 x2 (by rw [x3, hr]) hft hfin (kk _ (hS.put ht hT (by rw [hs]; exact ⟨z, rfl, h1, h2⟩) hl) gput_eq (fun b j hn => gput_ne hn))
/-- a cell is put into a field -/
theorem gs_ptr {q2 a : Nat} {s9 z0 : Int} (hlk : glk pc (gmC t) = some (.putfield idx, 3)) (hx : ¬ pc ∈ gmE t) (hf : (gmK t).1 idx = some (ci, k)) (hS : gSs T G.2.2.2.2 ty l h0 h) (ht : ty c = q) (hT : T q = some r) (hr : r.1 = .inr ci) (hs : r.2.2.2 k = (2, (q2 : Int), z0) ∨ r.2.2.2 k = (3, (q2 : Int), z0)) (hft : gfit (G.2.1 ci k) (.ref a) = true) (hfin : G.2.2.1 ci k = false ∨ gmI t = some ci) (hl : gpl T q k ∈ l) (ha : ty a = q2)
    (kk : ∀ h' : gH, gSs T G.2.2.2.2 ty l h0 h' → h'.2.2.2.2 c k = .ref a → (∀ b j, ¬ (b = c ∧ j = k) → h'.2.2.2.2 b j = h.2.2.2.2 b j) → gz P G cn d t (pc + 3) L S h' F) : gz P G cn d t pc L (.ref a :: .ref c :: S) h F := by
  obtain ⟨x1, x2, x3, -⟩ := hS.1 c r (by rw [ht]; exact hT)
  refine gz_put hlk hx hf x1 x2 (by rw [x3, hr]) hft hfin (kk _ (hS.put ht hT ?_ hl) gput_eq (fun b j hn => gput_ne hn))
  rcases hs with hs | hs
  · rw [hs]; exact ⟨a, rfl, ha⟩
  · rw [hs]; exact Or.inr ⟨a, rfl, ha⟩
theorem gy_shc {x y v : Int} {n : Nat} (hlk : glk pc (gmC t) = some (.ishr, 1)) (hx : ¬ pc ∈ gmE t) (ha : -2147483648 ≤ x ∧ x < 2147483648) (hn : n < 32) (hv : (2 : Int) ^ n = v) (hy : y = (n : Int)) (k : gz P G cn d t (pc + 1) L (.int (zi (x / v)) :: S) h F) : gz P G cn d t pc L (.int (zi y) :: .int (zi x) :: S) h F := by
  subst hy
  subst hv
  refine gy_shr hlk hx ha (by omega) ?_
  rw [Int.toNat_natCast]
  exact k
/-- switches -/
theorem gy_tab {n : Nat} {df lo hi off x v : Int} {offs : Array Int} (hlk : glk pc (gmC t) = some (.tableswitch df lo hi offs, n)) (hx : ¬ pc ∈ gmE t) (hr : -2147483648 ≤ v ∧ v < 2147483648) (he : x = v) (h1 : ¬ (v < lo ∨ hi < v)) (ho : offs[(v - lo).toNat]? = some off) (ht : (pc : Int) + off = (pc' : Int)) (k : gz P G cn d t pc' L S h F) : gz P G cn d t pc L (.int (zi x) :: S) h F := by
  subst he
  refine gz_0 hlk (fun q => q.elim (fun z => by cases z) hx) rfl (pc' := pc') (L' := L) (S' := S) ?_ k
  simp only [gst0, gtab]
  rw [zi_in hr, if_neg h1, ho]
  simp only [gtgt]
  rw [if_pos (by omega), ht, Int.toNat_natCast]
theorem gy_tabD {n : Nat} {df lo hi x : Int} {offs : Array Int} (hlk : glk pc (gmC t) = some (.tableswitch df lo hi offs, n)) (hx : ¬ pc ∈ gmE t) (hr : -2147483648 ≤ x ∧ x < 2147483648) (h1 : x < lo ∨ hi < x) (ht : (pc : Int) + df = (pc' : Int)) (k : gz P G cn d t pc' L S h F) : gz P G cn d t pc L (.int (zi x) :: S) h F := by
  refine gz_0 hlk (fun q => q.elim (fun z => by cases z) hx) rfl (pc' := pc') (L' := L) (S' := S) ?_ k
  simp only [gst0, gtab]
  rw [zi_in hr, if_pos h1]
  simp only [gtgt]
  rw [if_pos (by omega), ht, Int.toNat_natCast]
theorem gy_look {n : Nat} {df off x v : Int} {ps : Array (Int × Int)} (hlk : glk pc (gmC t) = some (.lookupswitch df ps, n)) (hx : ¬ pc ∈ gmE t) (hr : -2147483648 ≤ v ∧ v < 2147483648) (he : x = v) (hso : (ps.toList.zip (ps.toList.drop 1)).all (fun (a, next) => a.1 < next.1) = true) (ho : Op.lookupswitch.offset ps.toList df v = off) (ht : (pc : Int) + off = (pc' : Int)) (k : gz P G cn d t pc' L S h F) : gz P G cn d t pc L (.int (zi x) :: S) h F := by
  subst he
  refine gz_0 hlk (fun q => q.elim (fun z => by cases z) hx) rfl (pc' := pc') (L' := L) (S' := S) ?_ k
  simp only [gst0, glook]
  rw [if_pos hso, zi_in hr, ho]
  simp only [gtgt]
  rw [if_pos (by omega), ht, Int.toNat_natCast]
theorem glook_d {df x : Int} : ∀ {ps : List (Int × Int)}, (∀ p ∈ ps, p.1 ≠ x) → Op.lookupswitch.offset ps df x = df
  | [], _ => Op.lookupswitch.offset_nil df x
  | (a, o) :: r, hn => by
    rw [Op.lookupswitch.offset_cons, if_neg (fun e => hn (a, o) List.mem_cons_self (by first | exact e | exact e.symm))]
    exact glook_d (fun p hp => hn p (List.mem_cons_of_mem _ hp))
theorem gy_lookD {n : Nat} {df x : Int} {ps : Array (Int × Int)} (hlk : glk pc (gmC t) = some (.lookupswitch df ps, n)) (hx : ¬ pc ∈ gmE t) (hr : -2147483648 ≤ x ∧ x < 2147483648) (hso : (ps.toList.zip (ps.toList.drop 1)).all (fun (a, next) => a.1 < next.1) = true) (hn : ∀ p ∈ ps.toList, p.1 ≠ x) (ht : (pc : Int) + df = (pc' : Int)) (k : gz P G cn d t pc' L S h F) : gz P G cn d t pc L (.int (zi x) :: S) h F := by
  refine gz_0 hlk (fun q => q.elim (fun z => by cases z) hx) rfl (pc' := pc') (L' := L) (S' := S) ?_ k
  simp only [gst0, glook]
  rw [if_pos hso, zi_in hr, glook_d hn]
  simp only [gtgt]
  rw [if_pos (by omega), ht, Int.toNat_natCast]
end GSC
/-- the rows that never change: ZIGZAG and WAVE -/
def gSta (ty : Nat → Nat) (h : gH) : Prop := ty 0 = 0 ∧ ty 1 = 0 ∧ 1027 ≤ h.1 ∧ h.2.2.1 0 = some (.inl 0) ∧ h.2.2.2.1 0 = 64 ∧ h.2.2.1 1 = some (.inl 0) ∧ h.2.2.2.1 1 = 32 ∧ (∀ i, i < 64 → ∃ z : Int, h.2.2.2.2 0 i = .int (zi z) ∧ 0 ≤ z ∧ z ≤ 63) ∧ (∀ i, i < 32 → ∃ z : Int, h.2.2.2.2 1 i = .int (zi z) ∧ -4096 ≤ z ∧ z ≤ 4096)
theorem gSta.fr {ty : Nat → Nat} {h h' : gH} {l : List Nat} (g : gFr rT ty l h h') (hl : ∀ x ∈ l, 1000 ≤ x) (p : gSta ty h) : gSta ty h' := by
  obtain ⟨p1, p2, p3, p4, p5, p6, p7, p8, p9⟩ := p
  obtain ⟨g1, g2, g3, g4, g5⟩ := g
  refine ⟨p1, p2, by omega, by rw [g3]; exact p4, by rw [g4]; exact p5, by rw [g3]; exact p6, by rw [g4]; exact p7, fun i hi => ?_, fun i hi => ?_⟩
  · rw [g5 0 i (fun w => by have := hl _ w; rw [p1] at this; have e : gpl rT 0 i = 1000 * 0 + i := rfl; omega)]
    exact p8 i hi
  · rw [g5 1 i (fun w => by have := hl _ w; rw [p2] at this; have e : gpl rT 0 i = 1000 * 0 + i := rfl; omega)]
    exact p9 i hi
section GST
variable {P : Nat → Option gMt} {G : gG} {cn : Nat → Option Nat} {d : Nat} {t : gMt} {pc : Nat} {L : gL} {S : List Value} {h : gH} {F : gR → gL → Prop} {ty : Nat → Nat}
theorem gs_st0 {i : Int} (hlk : glk pc (gmC t) = some (.iaload, 1)) (hx : ¬ pc ∈ gmE t) (h9 : G.1[0]? = some .int) (p : gSta ty h) (hi0 : 0 ≤ i) (hi1 : i < 64) (kk : ∀ z : Int, 0 ≤ z → z ≤ 63 → gz P G cn d t (pc + 1) L (.int (zi z) :: S) h F) : gz P G cn d t pc L (.int (zi i) :: .ref 0 :: S) h F := by
  obtain ⟨p1, p2, p3, p4, p5, p6, p7, p8, p9⟩ := p
  obtain ⟨z, e, a, b⟩ := p8 i.toNat (by omega)
  exact gy_iald hlk hx (by omega) p4 h9 (by omega) hi0 (by omega) e (kk z a b)
theorem gs_st1 {i : Int} (hlk : glk pc (gmC t) = some (.iaload, 1)) (hx : ¬ pc ∈ gmE t) (h9 : G.1[0]? = some .int) (p : gSta ty h) (hi0 : 0 ≤ i) (hi1 : i < 32) (kk : ∀ z : Int, -4096 ≤ z → z ≤ 4096 → gz P G cn d t (pc + 1) L (.int (zi z) :: S) h F) : gz P G cn d t pc L (.int (zi i) :: .ref 1 :: S) h F := by
  obtain ⟨p1, p2, p3, p4, p5, p6, p7, p8, p9⟩ := p
  obtain ⟨z, e, a, b⟩ := p9 i.toNat (by omega)
  exact gy_iald hlk hx (by omega) p6 h9 (by omega) hi0 (by omega) e (kk z a b)
end GST
theorem gJ.arl {T : Nat → Option gRg} {n0 : Nat} {ty : Nat → Nat} {h : gH} {c q u j q2 : Nat} {r : gRg} {z0 : Int} (hJ : gJ T n0 ty h) (ht : ty c = q) (hT : T q = some r) (hr : r.1 = .inl u) (hs : r.2.2.2 j = (2, (q2 : Int), z0)) (hj : j < r.2.1) : ∃ a : Nat, h.2.2.2.2 c j = .ref a ∧ ty a = q2 := by
  obtain ⟨-, -, -, x4, -, x6⟩ := hJ c r (by rw [ht]; exact hT)
  have x7 := x6 j (by unfold gIn; rw [hr]; show j < _; omega)
  rw [hs] at x7
  obtain ⟨a, e, ha⟩ := x7
  exact ⟨a, e, ha⟩
/-- blocks that are listed are there -/
def gUb (ty : Nat → Nat) (us bl : Int) (h : gH) : Prop := ∀ i : Int, 0 ≤ i → i < us → gEl ty 70 i 0 (bl - 1) h
theorem gUb.fr {ty : Nat → Nat} {us bl : Int} {h h' : gH} {l : List Nat} (g : gFr rT ty l h h') (hl : ¬ 70999 ∈ l) (p : gUb ty us bl h) : gUb ty us bl h' := fun i h0 h1 => gEl.fr g hl (fun _ => rfl) (p i h0 h1)
theorem gUb.pt {ty : Nat → Nat} {us bl : Int} {h h' : gH} {c k q2 : Nat} (f : ∀ x j, ¬ (x = c ∧ j = k) → h'.2.2.2.2 x j = h.2.2.2.2 x j) (ht : ty c = q2) (hq : q2 ≠ 70) (p : gUb ty us bl h) : gUb ty us bl h' := fun i h0 h1 => gEl.pt f ht hq (p i h0 h1)
theorem gUb.step {ty : Nat → Nat} {us bl z : Int} {h h' : gH} {c : Nat} (uq : gUq ty) (ht : ty c = 70) (f : ∀ x n, ¬ (x = c ∧ n = us.toNat) → h'.2.2.2.2 x n = h.2.2.2.2 x n) (e : h'.2.2.2.2 c us.toNat = .int (zi z)) (h0 : 0 ≤ us) (hz : 0 ≤ z ∧ z ≤ bl - 1 ∧ z ≤ 191) (p : gUb ty us bl h) : gUb ty (us + 1) bl h' := by
  intro i i0 i1
  by_cases hi : i = us
  · rw [hi]
    exact (gEl.set uq ht (by decide) e (by omega) (by omega)).wd (by omega) (by omega)
  · exact gEl.ot f (p i i0 (by omega)) (by omega)
theorem gUb.zero {ty : Nat → Nat} {bl : Int} {h : gH} : gUb ty 0 bl h := fun i h0 h1 => absurd h1 (by omega)
/-- what is kept of a band -/
def gPq (A B hb vb C R oc orr f bl : Int) : Prop := 1 ≤ hb ∧ hb ≤ 2 ∧ 1 ≤ vb ∧ vb ≤ 2 ∧ C = A * hb ∧ R = B * vb ∧ 1 ≤ oc ∧ oc ≤ C ∧ 1 ≤ orr ∧ orr ≤ R ∧ 0 ≤ f ∧ f + C * R ≤ bl ∧ bl ≤ 192 ∧ 1 ≤ A ∧ A ≤ 8 ∧ 1 ≤ B ∧ B ≤ 8 ∧ C ≤ 8 ∧ R ≤ 8
theorem zc1 {u oc orr C R f bl : Int} (h0 : 0 ≤ u) (hu : u < oc * orr) (h1 : 1 ≤ oc) (h2 : oc ≤ C) (h3 : orr ≤ R) (h4 : 0 ≤ f) (h5 : f + C * R ≤ bl) : 0 ≤ u / oc * C ∧ u / oc < R ∧ 0 ≤ f + u / oc * C + u % oc ∧ f + u / oc * C + u % oc ≤ bl - 1 := by
  have g1 : u / oc < orr := Int.ediv_lt_of_lt_mul (by omega) (by rw [Int.mul_comm]; exact hu)
  have g2 := Int.ediv_nonneg h0 (by omega : (0 : Int) ≤ oc)
  have g3 := Int.emod_nonneg u (by omega : oc ≠ 0)
  have g4 := Int.emod_lt_of_pos u (by omega : (0 : Int) < oc)
  have g5 : C * (u / oc) ≤ C * (R - 1) := Int.mul_le_mul_of_nonneg_left (by omega) (by omega)
  have g6 : C * (R - 1) = C * R - C := by rw [Int.mul_sub, Int.mul_one]
  have g7 : 0 ≤ C * (u / oc) := Int.mul_nonneg (by omega) g2
  have g8 : u / oc * C = C * (u / oc) := Int.mul_comm _ _
  omega
theorem zc2 {u k A B C R f hb vb bl : Int} (h0 : 0 ≤ u) (hu : u < A * B) (k0 : 0 ≤ k) (hk : k < hb * vb) (h1 : 1 ≤ A) (h6 : 1 ≤ hb) (h7 : 1 ≤ vb) (hC : C = A * hb) (hR : R = B * vb) (h4 : 0 ≤ f) (h5 : f + C * R ≤ bl) : 0 ≤ u % A * hb ∧ u % A * hb + k % hb < C ∧ 0 ≤ u / A * vb ∧ u / A * vb + k / hb < R ∧ 0 ≤ (u / A * vb + k / hb) * C ∧ f + (u / A * vb + k / hb) * C + (u % A * hb + k % hb) ≤ bl - 1 := by
  have g1 : u / A < B := Int.ediv_lt_of_lt_mul (by omega) (by rw [Int.mul_comm]; exact hu)
  have g2 := Int.ediv_nonneg h0 (by omega : (0 : Int) ≤ A)
  have g3 := Int.emod_nonneg u (by omega : A ≠ 0)
  have g4 := Int.emod_lt_of_pos u (by omega : (0 : Int) < A)
  have i1 : k / hb < vb := Int.ediv_lt_of_lt_mul (by omega) (by rw [Int.mul_comm]; exact hk)
  have i2 := Int.ediv_nonneg k0 (by omega : (0 : Int) ≤ hb)
  have i3 := Int.emod_nonneg k (by omega : hb ≠ 0)
  have i4 := Int.emod_lt_of_pos k (by omega : (0 : Int) < hb)
  have j1 : u % A * hb ≤ (A - 1) * hb := Int.mul_le_mul_of_nonneg_right (by omega) (by omega)
  have j2 : (A - 1) * hb = C - hb := by rw [hC, Int.sub_mul, Int.one_mul]
  have j3 : 0 ≤ u % A * hb := Int.mul_nonneg g3 (by omega)
  have j4 : u / A * vb ≤ (B - 1) * vb := Int.mul_le_mul_of_nonneg_right (by omega) (by omega)
  have j5 : (B - 1) * vb = R - vb := by rw [hR, Int.sub_mul, Int.one_mul]
  have j6 : 0 ≤ u / A * vb := Int.mul_nonneg g2 (by omega)
  have hC0 : 0 ≤ C := by rw [hC]; exact Int.mul_nonneg (by omega) (by omega)
  have g5 : (u / A * vb + k / hb) * C ≤ (R - 1) * C := Int.mul_le_mul_of_nonneg_right (by omega) hC0
  have g6 : (R - 1) * C = C * R - C := by rw [Int.sub_mul, Int.one_mul, Int.mul_comm]
  have g7 : 0 ≤ (u / A * vb + k / hb) * C := Int.mul_nonneg (by omega) hC0
  omega
theorem zup_alt {a b : Int} (hb : 0 < b) : (a + b - 1) / b = zup a b := by
  have h1 := Int.emod_add_mul_ediv a b
  have h2 := Int.emod_nonneg a (by omega : b ≠ 0)
  have h3 := Int.emod_lt_of_pos a hb
  unfold zup
  split
  · rename_i h0
    have e : a + b - 1 = (b - 1) + b * (a / b) := by omega
    rw [e, Int.add_mul_ediv_left _ _ (by omega : b ≠ 0), Int.ediv_eq_zero_of_lt (by omega) (by omega)]
    omega
  · rename_i h0
    have e : a + b - 1 = (a % b - 1) + b * (a / b + 1) := by
      rw [Int.mul_add, Int.mul_one]
      omega
    rw [e, Int.add_mul_ediv_left _ _ (by omega : b ≠ 0), Int.ediv_eq_zero_of_lt (by omega) (by omega)]
    omega
theorem zb5b {C R f i j bl : Int} (h0 : 0 ≤ i) (h1 : i < C) (h2 : 0 ≤ j) (h3 : j < R) (h4 : 0 ≤ f) (h5 : f + C * R ≤ bl) : 0 ≤ j * C ∧ j * C ≤ bl ∧ f + j * C + i ≤ bl - 1 := by
  have g5 : C * j ≤ C * (R - 1) := Int.mul_le_mul_of_nonneg_left (by omega) (by omega)
  have g6 : C * (R - 1) = C * R - C := by rw [Int.mul_sub, Int.mul_one]
  have g7 : 0 ≤ C * j := Int.mul_nonneg (by omega) h2
  have g8 : j * C = C * j := Int.mul_comm _ _
  omega
