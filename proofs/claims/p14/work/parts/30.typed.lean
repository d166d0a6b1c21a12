/-! ===== typed memory: what every state keeps ===== -/
/-- what a place holds: (0, lo, hi) an int; (1, lo, hi) a long; (2, k, _) a cell of kind k; (3, k, _) that, or null; else anything -/
abbrev gSl : Type := Nat × Int × Int
/-- a kind of cells: a class or an array type, least and greatest length, places -/
abbrev gRg : Type := (Nat ⊕ Nat) × Nat × Nat × (Nat → gSl)
def gOs (s : gSl) (ty : Nat → Nat) (v : Value) : Prop := match s.1 with
  | 0 => ∃ z : Int, v = .int (zi z) ∧ s.2.1 ≤ z ∧ z ≤ s.2.2
  | 1 => ∃ z : Int, v = .long (Int64.ofInt z) ∧ s.2.1 ≤ z ∧ z ≤ s.2.2
  | 2 => ∃ a : Nat, v = .ref a ∧ ty a = s.2.1.toNat
  | 3 => v = .null ∨ ∃ a : Nat, v = .ref a ∧ ty a = s.2.1.toNat
  | _ => True
def gIn (r : gRg) (n k : Nat) : Prop := match r.1 with
  | .inl _ => k < n
  | .inr _ => True
/-- every cell of a kind is as its kind says -/
def gJ (T : Nat → Option gRg) (n0 : Nat) (ty : Nat → Nat) (h : gH) : Prop := ∀ c r, T (ty c) = some r → n0 ≤ c ∧ c < h.1 ∧ h.2.2.1 c = some r.1 ∧ r.2.1 ≤ h.2.2.2.1 c ∧ h.2.2.2.1 c ≤ r.2.2.1 ∧ ∀ k, gIn r (h.2.2.2.1 c) k → gOs (r.2.2.2 k) ty (h.2.2.2.2 c k)
/-- a place's number: kind and field; all places of an array are one -/
def gpl (T : Nat → Option gRg) (q k : Nat) : Nat := match T q with
  | some (.inl _, _) => 1000 * q + 999
  | _ => 1000 * q + k
/-- the same cells; other contents at these places alone -/
def gFr (T : Nat → Option gRg) (ty : Nat → Nat) (l : List Nat) (h h' : gH) : Prop := h'.1 = h.1 ∧ h'.2.1 = h.2.1 ∧ h'.2.2.1 = h.2.2.1 ∧ h'.2.2.2.1 = h.2.2.2.1 ∧ ∀ c k, ¬ gpl T (ty c) k ∈ l → h'.2.2.2.2 c k = h.2.2.2.2 c k
/-- what a run keeps, and what it may change -/
def gSs (T : Nat → Option gRg) (n0 : Nat) (ty : Nat → Nat) (l : List Nat) (h h' : gH) : Prop := gJ T n0 ty h' ∧ gFr T ty l h h'
section GT
variable {T : Nat → Option gRg} {n0 : Nat} {ty : Nat → Nat} {l l2 : List Nat} {h0 h h' h1 : gH} {c k q : Nat} {r : gRg} {v : Value}
theorem gFr.rf : gFr T ty l h h := ⟨rfl, rfl, rfl, rfl, fun _ _ _ => rfl⟩
theorem gFr.tr (a : gFr T ty l h h') (b : gFr T ty l2 h' h1) (hl : ∀ x ∈ l2, x ∈ l) : gFr T ty l h h1 :=
  ⟨b.1.trans a.1, b.2.1.trans a.2.1, b.2.2.1.trans a.2.2.1, b.2.2.2.1.trans a.2.2.2.1, fun c k hn => (b.2.2.2.2 c k (fun z => hn (hl _ z))).trans (a.2.2.2.2 c k hn)⟩
theorem gSs.rf (hJ : gJ T n0 ty h) : gSs T n0 ty l h h := ⟨hJ, gFr.rf⟩
theorem gSs.tr (a : gSs T n0 ty l h h') (b : gSs T n0 ty l2 h' h1) (hl : ∀ x ∈ l2, x ∈ l) : gSs T n0 ty l h h1 := ⟨b.1, a.2.tr b.2 hl⟩
theorem gJ.put (hJ : gJ T n0 ty h) (ht : ty c = q) (hT : T q = some r) (hv : gOs (r.2.2.2 k) ty v) : gJ T n0 ty (gput h c k v) := by
  intro b s hb
  obtain ⟨x1, x2, x3, x4, x5, x6⟩ := hJ b s hb
  refine ⟨x1, x2, x3, x4, x5, fun j hj => ?_⟩
  show gOs _ ty (gup h.2.2.2.2 c k v b j)
  unfold gup
  by_cases hbc : b = c
  · rw [if_pos hbc]
    by_cases hjk : j = k
    · rw [if_pos hjk]
      have e : s = r := by
        rw [hbc, ht, hT] at hb
        exact (Option.some.inj hb).symm
      rw [e, hjk]
      exact hv
    · rw [if_neg hjk]
      exact x6 j hj
  · rw [if_neg hbc]
    exact x6 j hj
theorem gSs.put (a : gSs T n0 ty l h h') (ht : ty c = q) (hT : T q = some r) (hv : gOs (r.2.2.2 k) ty v) (hl : gpl T q k ∈ l) : gSs T n0 ty l h (gput h' c k v) := by
  refine ⟨a.1.put ht hT hv, a.2.1, a.2.2.1, a.2.2.2.1, a.2.2.2.2.1, fun b j hn => ?_⟩
  show gup h'.2.2.2.2 c k v b j = _
  unfold gup
  by_cases hbc : b = c
  · rw [if_pos hbc]
    by_cases hjk : j = k
    · exact absurd (by rw [hbc, hjk, ht]; exact hl) hn
    · rw [if_neg hjk]
      exact a.2.2.2.2.2 b j hn
  · rw [if_neg hbc]
    exact a.2.2.2.2.2 b j hn
theorem gput_ne {b j : Nat} (hn : ¬ (b = c ∧ j = k)) : (gput h c k v).2.2.2.2 b j = h.2.2.2.2 b j := by
  show gup h.2.2.2.2 c k v b j = _
  unfold gup
  by_cases hbc : b = c
  · rw [if_pos hbc, if_neg (fun e => hn ⟨hbc, e⟩)]
  · rw [if_neg hbc]
theorem gput_eq : (gput h c k v).2.2.2.2 c k = v := by
  show gup h.2.2.2.2 c k v c k = v
  unfold gup
  rw [if_pos rfl, if_pos rfl]
end GT
section GSt
variable {P : Nat → Option gMt} {G : gG} {cn : Nat → Option Nat} {d : Nat} {t : gMt} {pc pc' : Nat} {L L' : gL} {S S' : List Value} {h0 h : gH} {F : gR → gL → Prop} {I : Instr} {len : Nat}
variable {T : Nat → Option gRg} {ty : Nat → Nat} {l : List Nat} {c k q ci idx : Nat} {r : gRg}
/-- an int field -/
theorem gs_get {lo hi : Int} (hlk : glk pc (gmC t) = some (.getfield idx, 3)) (hx : ¬ pc ∈ gmE t) (hf : (gmK t).1 idx = some (ci, k)) (hJ : gJ T G.2.2.2.2 ty h) (ht : ty c = q) (hT : T q = some r) (hr : r.1 = .inr ci) (hs : r.2.2.2 k = (0, lo, hi))
    (kk : ∀ z : Int, h.2.2.2.2 c k = .int (zi z) → lo ≤ z → z ≤ hi → gz P G cn d t (pc + 3) L (.int (zi z) :: S) h F) : gz P G cn d t pc L (.ref c :: S) h F := by
  obtain ⟨x1, x2, x3, -, -, x6⟩ := hJ c r (by rw [ht]; exact hT)
  have x7 := x6 k (by unfold gIn; rw [hr]; trivial)
  rw [hs] at x7
  obtain ⟨z, e, a, b⟩ := x7
  exact gz_get hlk hx hf x1 x2 (by rw [x3, hr]) e (kk z e a b)
/-- a field whose contents are known -/
theorem gs_gtk {v : Value} (hlk : glk pc (gmC t) = some (.getfield idx, 3)) (hx : ¬ pc ∈ gmE t) (hf : (gmK t).1 idx = some (ci, k)) (hJ : gJ T G.2.2.2.2 ty h) (ht : ty c = q) (hT : T q = some r) (hr : r.1 = .inr ci) (hv : h.2.2.2.2 c k = v)
    (kk : gz P G cn d t (pc + 3) L (v :: S) h F) : gz P G cn d t pc L (.ref c :: S) h F := by
  obtain ⟨x1, x2, x3, -⟩ := hJ c r (by rw [ht]; exact hT)
  exact gz_get hlk hx hf x1 x2 (by rw [x3, hr]) hv kk
/-- a reference -/
theorem gs_gtr {q2 : Nat} {z0 : Int} (hlk : glk pc (gmC t) = some (.getfield idx, 3)) (hx : ¬ pc ∈ gmE t) (hf : (gmK t).1 idx = some (ci, k)) (hJ : gJ T G.2.2.2.2 ty h) (ht : ty c = q) (hT : T q = some r) (hr : r.1 = .inr ci) (hs : r.2.2.2 k = (2, (q2 : Int), z0))
    (kk : ∀ a : Nat, h.2.2.2.2 c k = .ref a → ty a = q2 → gz P G cn d t (pc + 3) L (.ref a :: S) h F) : gz P G cn d t pc L (.ref c :: S) h F := by
  obtain ⟨x1, x2, x3, -, -, x6⟩ := hJ c r (by rw [ht]; exact hT)
  have x7 := x6 k (by unfold gIn; rw [hr]; trivial)
  rw [hs] at x7
  obtain ⟨a, e, ha⟩ := x7
  exact gz_get hlk hx hf x1 x2 (by rw [x3, hr]) e (kk a e ha)
/-- an int is put into a field -/
theorem gs_put {lo hi z : Int} (hlk : glk pc (gmC t) = some (.putfield idx, 3)) (hx : ¬ pc ∈ gmE t) (hf : (gmK t).1 idx = some (ci, k)) (hS : gSs T G.2.2.2.2 ty l h0 h) (ht : ty c = q) (hT : T q = some r) (hr : r.1 = .inr ci) (hs : r.2.2.2 k = (0, lo, hi)) (hft : gfit (G.2.1 ci k) (.int (zi z)) = true) (hfin : G.2.2.1 ci k = false ∨ gmI t = some ci) (hl : gpl T q k ∈ l) (h1 : lo ≤ z) (h2 : z ≤ hi)
    (kk : ∀ h' : gH, gSs T G.2.2.2.2 ty l h0 h' → h'.2.2.2.2 c k = .int (zi z) → (∀ b j, ¬ (b = c ∧ j = k) → h'.2.2.2.2 b j = h.2.2.2.2 b j) → gz P G cn d t (pc + 3) L S h' F) : gz P G cn d t pc L (.int (zi z) :: .ref c :: S) h F := by
  obtain ⟨x1, x2, x3, -⟩ := hS.1 c r (by rw [ht]; exact hT)
  exact gz_put hlk hx hf x1 x2 (by rw [x3, hr]) hft hfin (kk _ (hS.put ht hT (by rw [hs]; exact ⟨z, rfl, h1, h2⟩) hl) gput_eq (fun b j hn => gput_ne hn))
/-- an int of a row -/
theorem gs_ald {lo hi i : Int} (hlk : glk pc (gmC t) = some (.iaload, 1)) (hx : ¬ pc ∈ gmE t) (hJ : gJ T G.2.2.2.2 ty h) (ht : ty c = q) (hT : T q = some r) (hr : r.1 = .inl 0) (h9 : G.1[0]? = some .int) (hm : r.2.2.1 ≤ 1000000) (hs : ∀ j, r.2.2.2 j = (0, lo, hi)) (hi0 : 0 ≤ i) (hi1 : i < h.2.2.2.1 c)
    (kk : ∀ z : Int, h.2.2.2.2 c i.toNat = .int (zi z) → lo ≤ z → z ≤ hi → gz P G cn d t (pc + 1) L (.int (zi z) :: S) h F) : gz P G cn d t pc L (.int (zi i) :: .ref c :: S) h F := by
  obtain ⟨x1, x2, x3, x4, x5, x6⟩ := hJ c r (by rw [ht]; exact hT)
  have x7 := x6 i.toNat (by unfold gIn; rw [hr]; show i.toNat < _; omega)
  rw [hs] at x7
  obtain ⟨z, e, a, b⟩ := x7
  exact gy_iald hlk hx x2 (by rw [x3, hr]) h9 (by omega) hi0 hi1 e (kk z e a b)
theorem gs_ast {lo hi i z : Int} (hlk : glk pc (gmC t) = some (.iastore, 1)) (hx : ¬ pc ∈ gmE t) (hS : gSs T G.2.2.2.2 ty l h0 h) (ht : ty c = q) (hT : T q = some r) (hr : r.1 = .inl 0) (h9 : G.1[0]? = some .int) (hm : r.2.2.1 ≤ 1000000) (hs : ∀ j, r.2.2.2 j = (0, lo, hi)) (hi0 : 0 ≤ i) (hi1 : i < h.2.2.2.1 c) (hl : ∀ j, gpl T q j ∈ l) (h1 : lo ≤ z) (h2 : z ≤ hi)
    (kk : ∀ h' : gH, gSs T G.2.2.2.2 ty l h0 h' → h'.2.2.2.2 c i.toNat = .int (zi z) → (∀ b j, ¬ (b = c ∧ j = i.toNat) → h'.2.2.2.2 b j = h.2.2.2.2 b j) → gz P G cn d t (pc + 1) L S h' F) : gz P G cn d t pc L (.int (zi z) :: .int (zi i) :: .ref c :: S) h F := by
  obtain ⟨x1, x2, x3, x4, x5, -⟩ := hS.1 c r (by rw [ht]; exact hT)
  exact gy_iast hlk hx x1 x2 (by rw [x3, hr]) h9 (by omega) hi0 hi1 (kk _ (hS.put ht hT (by rw [hs]; exact ⟨z, rfl, h1, h2⟩) (hl _)) gput_eq (fun b j hn => gput_ne hn))
/-- how long a row is -/
theorem gJ.rowl (hJ : gJ T G.2.2.2.2 ty h) (ht : ty c = q) (hT : T q = some r) : r.2.1 ≤ h.2.2.2.1 c ∧ h.2.2.2.1 c ≤ r.2.2.1 := by
  obtain ⟨-, -, -, x4, x5, -⟩ := hJ c r (by rw [ht]; exact hT)
  exact ⟨x4, x5⟩
/-- an int field, whatever it is -/
theorem gJ.int {lo hi : Int} (hJ : gJ T G.2.2.2.2 ty h) (ht : ty c = q) (hT : T q = some r) (hr : r.1 = .inr ci) (hs : r.2.2.2 k = (0, lo, hi)) : ∃ z : Int, h.2.2.2.2 c k = .int (zi z) ∧ lo ≤ z ∧ z ≤ hi := by
  obtain ⟨-, -, -, -, -, x6⟩ := hJ c r (by rw [ht]; exact hT)
  have x7 := x6 k (by unfold gIn; rw [hr]; trivial)
  rw [hs] at x7
  exact x7
/-- the object whose method is called -/
theorem gJ.recv {t' : gMt} {vs : List Value} (hJ : gJ T G.2.2.2.2 ty h) (ht : ty c = q) (hT : T q = some r) (hr : r.1 = .inr (gmO t')) : grecv G.2.2.2.2 1 t' (.ref c :: vs) h = true := by
  obtain ⟨x1, x2, x3, -⟩ := hJ c r (by rw [ht]; exact hT)
  exact grecv_of x1 x2 (by rw [x3, hr])
end GSt
