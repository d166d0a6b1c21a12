/-! ===== the pure machine, I: values, locals, instructions that leave the heap alone ===== -/
/-- a value of the pure machine in the machine's addresses -/
def gtv (ad : Nat → Nat) : Value → Value
  | .ref a => .ref (ad a)
  | v => v
theorem gtv_cat (ad : Nat → Nat) (v : Value) : (gtv ad v).category = v.category := by cases v <;> rfl
abbrev gL : Type := List (Option Value)
def gkill (L : gL) (i : Nat) : gL := match i with
  | 0 => L
  | j + 1 => match L[j]? with
    | some (some v) => if v.category = 2 then L.set j none else L
    | _ => L
def gsto1 (L : gL) (i : Nat) (v : Value) : gL := (gkill L i).set i (some v)
def gsto2 (L : gL) (i : Nat) (v : Value) : gL := ((gkill L i).set i (some v)).set (i + 1) none
/-- the machine's locals hold the pure ones -/
def gLs (ad : Nat → Nat) (ls : Array Slot) (L : gL) : Prop := ls.size = L.length ∧ lv_wf ls ∧ ∀ (i : Nat) (v : Value), L[i]? = some (some v) → ls[i]? = some (.val (gtv ad v))
/-- the pure locals as the kit lists them -/
def gll (ad : Nat → Nat) (L : gL) : List (Nat × Value) := (List.range L.length).filterMap (fun i => match L[i]? with
  | some (some v) => some (i, gtv ad v)
  | _ => none)
theorem gll_mem {ad : Nat → Nat} {L : gL} {q : Nat × Value} : q ∈ gll ad L ↔ ∃ v, L[q.1]? = some (some v) ∧ q.2 = gtv ad v := by
  unfold gll
  rw [List.mem_filterMap]
  constructor
  · rintro ⟨i, hi, h⟩
    cases hl : L[i]? with
    | none => simp [hl] at h
    | some o =>
      cases o with
      | none => simp [hl] at h
      | some v =>
        simp [hl] at h
        subst h
        exact ⟨v, hl, rfl⟩
  · rintro ⟨v, h1, h2⟩
    refine ⟨q.1, List.mem_range.mpr (List.getElem?_eq_some_iff.mp h1).1, ?_⟩
    simp [h1, ← h2]
theorem gLs.has {ad : Nat → Nat} {ls : Array Slot} {L : gL} (h : gLs ad ls L) : lv_has ls L.length (gll ad L) := by
  refine ⟨h.1, h.2.1, fun q hq => ?_⟩
  obtain ⟨v, h1, h2⟩ := gll_mem.mp hq
  rw [h2]
  exact h.2.2 q.1 v h1
theorem gkill_len (L : gL) (i : Nat) : (gkill L i).length = L.length := by
  unfold gkill
  split
  · rfl
  · split
    · split <;> simp
    · rfl
theorem gkill_at {L : gL} {i j : Nat} {v : Value} (h : (gkill L i)[j]? = some (some v)) : L[j]? = some (some v) ∧ ¬ (j + 1 = i ∧ v.category = 2) := by
  unfold gkill at h
  split at h
  · exact ⟨h, by omega⟩
  · rename_i k
    split at h
    · rename_i w hw
      split at h
      · rename_i hc
        rw [List.getElem?_set] at h
        split at h
        · split at h <;> simp at h
        · rename_i hne
          exact ⟨h, fun q => hne (by omega)⟩
      · rename_i hc
        refine ⟨h, fun q => ?_⟩
        have : j = k := by omega
        subst this
        rw [hw] at h
        cases h
        exact hc q.2
    · rename_i hn
      refine ⟨h, fun q => ?_⟩
      have : j = k := by omega
      subst this
      exact hn v h
theorem gsto1_len (L : gL) (i : Nat) (v : Value) : (gsto1 L i v).length = L.length := by simp [gsto1, gkill_len]
theorem gsto2_len (L : gL) (i : Nat) (v : Value) : (gsto2 L i v).length = L.length := by simp [gsto2, gkill_len]
theorem gLs_sto1 {ad : Nat → Nat} {ls' : Array Slot} {L : gL} {i : Nat} {v : Value} (hv : v.category = 1)
    (h : lv_has ls' L.length ((i, gtv ad v) :: (gll ad L).filter (fun q => !(q.1 == i) && !(q.1 + 1 == i && q.2.category == 2)))) : gLs ad ls' (gsto1 L i v) := by
  refine ⟨by rw [gsto1_len]; exact h.1, h.2.1, fun j w hj => ?_⟩
  unfold gsto1 at hj
  rw [List.getElem?_set] at hj
  split at hj
  · rename_i e
    subst e
    split at hj
    · cases hj
      exact h.2.2 (i, gtv ad v) List.mem_cons_self
    · cases hj
  · rename_i hne
    obtain ⟨h1, h2⟩ := gkill_at hj
    refine h.2.2 (j, gtv ad w) (List.mem_cons_of_mem _ (List.mem_filter.mpr ⟨gll_mem.mpr ⟨w, h1, rfl⟩, ?_⟩))
    have e1 : ¬ j = i := fun q => hne q.symm
    simp only [Bool.and_eq_true, Bool.not_eq_true', beq_eq_false_iff_ne, ne_eq, Bool.and_eq_false_iff, gtv_cat]
    refine ⟨e1, ?_⟩
    by_cases hq : j + 1 = i
    · exact Or.inr (fun z => h2 ⟨hq, z⟩)
    · exact Or.inl hq
theorem gLs_sto2 {ad : Nat → Nat} {ls' : Array Slot} {L : gL} {i : Nat} {v : Value}
    (h : lv_has ls' L.length ((i, gtv ad v) :: (gll ad L).filter (fun q => !(q.1 == i) && (!(q.1 == i + 1) && !(q.1 + 1 == i && q.2.category == 2))))) : gLs ad ls' (gsto2 L i v) := by
  refine ⟨by rw [gsto2_len]; exact h.1, h.2.1, fun j w hj => ?_⟩
  unfold gsto2 at hj
  rw [List.getElem?_set] at hj
  split at hj
  · split at hj <;> simp at hj
  · rename_i hne1
    rw [List.getElem?_set] at hj
    split at hj
    · rename_i e
      subst e
      split at hj
      · cases hj
        exact h.2.2 (i, gtv ad v) List.mem_cons_self
      · cases hj
    · rename_i hne
      obtain ⟨h1, h2⟩ := gkill_at hj
      refine h.2.2 (j, gtv ad w) (List.mem_cons_of_mem _ (List.mem_filter.mpr ⟨gll_mem.mpr ⟨w, h1, rfl⟩, ?_⟩))
      have e1 : ¬ j = i := fun q => hne q.symm
      have e2 : ¬ j = i + 1 := fun q => hne1 q.symm
      simp only [Bool.and_eq_true, Bool.not_eq_true', beq_eq_false_iff_ne, ne_eq, Bool.and_eq_false_iff, gtv_cat]
      refine ⟨e1, e2, ?_⟩
      by_cases hq : j + 1 = i
      · exact Or.inr (fun z => h2 ⟨hq, z⟩)
      · exact Or.inl hq
abbrev gN : Type := Nat × gL × List Value
def gpush (n k pc : Nat) (L : gL) (S : List Value) (v : Value) : Option gN := if n = k then some (pc + k, L, v :: S) else none
def gII (n pc : Nat) (L : gL) (S : List Value) (f : Int32 → Int32 → Int32) : Option gN := match S with
  | .int y :: .int x :: S' => if n = 1 then some (pc + 1, L, .int (f x y) :: S') else none
  | _ => none
def gLL (n pc : Nat) (L : gL) (S : List Value) (f : Int64 → Int64 → Int64) : Option gN := match S with
  | .long y :: .long x :: S' => if n = 1 then some (pc + 1, L, .long (f x y) :: S') else none
  | _ => none
def gLI (n pc : Nat) (L : gL) (S : List Value) (f : Int64 → Int32 → Int64) : Option gN := match S with
  | .int y :: .long x :: S' => if n = 1 then some (pc + 1, L, .long (f x y) :: S') else none
  | _ => none
def gI1 (n pc : Nat) (L : gL) (S : List Value) (f : Int32 → Value) : Option gN := match S with
  | .int x :: S' => if n = 1 then some (pc + 1, L, f x :: S') else none
  | _ => none
def gL1 (n pc : Nat) (L : gL) (S : List Value) (f : Int64 → Value) : Option gN := match S with
  | .long x :: S' => if n = 1 then some (pc + 1, L, f x :: S') else none
  | _ => none
def gild (n k pc i : Nat) (L : gL) (S : List Value) : Option gN := match L[i]? with
  | some (some (.int x)) => if n = k then some (pc + k, L, .int x :: S) else none
  | _ => none
def glld (n k pc i : Nat) (L : gL) (S : List Value) : Option gN := match L[i]? with
  | some (some (.long x)) => if n = k then some (pc + k, L, .long x :: S) else none
  | _ => none
def gald (n k pc i : Nat) (L : gL) (S : List Value) : Option gN := match L[i]? with
  | some (some (.ref x)) => if n = k then some (pc + k, L, .ref x :: S) else none
  | some (some .null) => if n = k then some (pc + k, L, .null :: S) else none
  | _ => none
def gist (n k pc i : Nat) (L : gL) (S : List Value) : Option gN := match S with
  | .int x :: S' => if n = k ∧ i < L.length then some (pc + k, gsto1 L i (.int x), S') else none
  | _ => none
def glst (n k pc i : Nat) (L : gL) (S : List Value) : Option gN := match S with
  | .long x :: S' => if n = k ∧ i + 1 < L.length then some (pc + k, gsto2 L i (.long x), S') else none
  | _ => none
def gast (n k pc i : Nat) (L : gL) (S : List Value) : Option gN := match S with
  | .ref x :: S' => if n = k ∧ i < L.length then some (pc + k, gsto1 L i (.ref x), S') else none
  | _ => none
def giinc (n pc i : Nat) (d : Int) (L : gL) (S : List Value) : Option gN := match L[i]? with
  | some (some (.int x)) => if n = 3 ∧ i < L.length then some (pc + 3, gsto1 L i (.int (x + Int32.ofInt d)), S) else none
  | _ => none
def gtgt (pc : Nat) (off : Int) (L : gL) (S : List Value) : Option gN := if 0 ≤ (pc : Int) + off then some (((pc : Int) + off).toNat, L, S) else none
def gholds (c : ClassFile.Cond) (x y : Int32) : Bool := match c with
  | .eq => decide (x = y)
  | .ne => decide (¬ x = y)
  | .lt => decide (x < y)
  | .ge => decide (y ≤ x)
  | .gt => decide (y < x)
  | .le => decide (x ≤ y)
def gif (n pc : Nat) (c : ClassFile.Cond) (off : Int) (L : gL) (S : List Value) : Option gN := match S with
  | .int x :: S' => if n = 3 ∧ 0 ≤ (pc : Int) + off then (if gholds c x 0 = true then some (((pc : Int) + off).toNat, L, S') else some (pc + 3, L, S')) else none
  | _ => none
def gicmp (n pc : Nat) (c : ClassFile.Cond) (off : Int) (L : gL) (S : List Value) : Option gN := match S with
  | .int y :: .int x :: S' => if n = 3 ∧ 0 ≤ (pc : Int) + off then (if gholds c x y = true then some (((pc : Int) + off).toNat, L, S') else some (pc + 3, L, S')) else none
  | _ => none
def gnn (n pc : Nat) (off : Int) (L : gL) (S : List Value) : Option gN := match S with
  | .ref _ :: S' => if n = 3 then gtgt pc off L S' else none
  | .null :: S' => if n = 3 then some (pc + 3, L, S') else none
  | _ => none
def gtab (pc : Nat) (df lo hi : Int) (offs : Array Int) (L : gL) (S : List Value) : Option gN := match S with
  | .int x :: S' => if x.toInt < lo ∨ hi < x.toInt then gtgt pc df L S' else match offs[(x.toInt - lo).toNat]? with
    | some off => gtgt pc off L S'
    | none => none
  | _ => none
def glook (pc : Nat) (df : Int) (ps : Array (Int × Int)) (L : gL) (S : List Value) : Option gN := match S with
  | .int x :: S' => if (ps.toList.zip (ps.toList.drop 1)).all (fun (a, next) => a.1 < next.1) = true then gtgt pc (Op.lookupswitch.offset ps.toList df x.toInt) L S' else none
  | _ => none
def gdup (n pc : Nat) (L : gL) (S : List Value) : Option gN := match S with
  | v :: S' => if n = 1 ∧ v.category = 1 then some (pc + 1, L, v :: v :: S') else none
  | _ => none
def gdup2 (n pc : Nat) (L : gL) (S : List Value) : Option gN := match S with
  | v :: w :: S' => if n = 1 ∧ v.category = 1 ∧ w.category = 1 then some (pc + 1, L, v :: w :: v :: w :: S') else none
  | _ => none
def gpop (n pc : Nat) (L : gL) (S : List Value) : Option gN := match S with
  | v :: S' => if n = 1 ∧ v.category = 1 then some (pc + 1, L, S') else none
  | _ => none
