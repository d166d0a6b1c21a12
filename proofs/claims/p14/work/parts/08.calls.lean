/-! ===== the pure machine, VI: methods, calls, the run ===== -/
def gsl : List Value → gL
  | [] => []
  | v :: l => if v.category = 2 then some v :: none :: gsl l else some v :: gsl l
def gent (vs : List Value) (n : Nat) : gL := gsl vs ++ List.replicate (n - (gsl vs).length) none
theorem gsl_len (ad : Nat → Nat) (vs : List Value) : (lg_sl (vs.map (gtv ad))).length = (gsl vs).length := by
  induction vs with
  | nil => rfl
  | cons v l ih =>
    have e : lg_sl ((v :: l).map (gtv ad)) = (if (gtv ad v).category = 2 then [.val (gtv ad v), .second] else [.val (gtv ad v)]) ++ lg_sl (l.map (gtv ad)) := by
      simp [lg_sl]
    rw [e, gtv_cat]
    unfold gsl
    split <;> simp [ih]
theorem gsl_at (ad : Nat → Nat) (vs : List Value) : ∀ (i : Nat) (v : Value), (gsl vs)[i]? = some (some v) → (lg_sl (vs.map (gtv ad)))[i]? = some (.val (gtv ad v)) := by
  induction vs with
  | nil => intro i v h; simp [gsl] at h
  | cons w l ih =>
    intro i v h
    have e : lg_sl ((w :: l).map (gtv ad)) = (if (gtv ad w).category = 2 then [.val (gtv ad w), .second] else [.val (gtv ad w)]) ++ lg_sl (l.map (gtv ad)) := by
      simp [lg_sl]
    rw [e, gtv_cat]
    unfold gsl at h
    split at h
    · rename_i hc
      rw [if_pos hc]
      match i, h with
      | 0, h => simp at h; simp [h]
      | 1, h => simp at h
      | i + 2, h => exact ih i v (by simpa using h)
    · rename_i hc
      rw [if_neg hc]
      match i, h with
      | 0, h => simp at h; simp [h]
      | i + 1, h => exact ih i v (by simpa using h)
theorem gent_len {vs : List Value} {n : Nat} (h : (gsl vs).length ≤ n) : (gent vs n).length = n := by simp [gent]; omega
theorem gent_ls {ad : Nat → Nat} {vs : List Value} {n : Nat} (h : (gsl vs).length ≤ n) : gLs ad ((lg_sl (vs.map (gtv ad)) ++ List.replicate (n - (lg_sl (vs.map (gtv ad))).length) Slot.unset).toArray) (gent vs n) := by
  have hl := lv_entry (vs.map (gtv ad)) (n := n) (by rw [gsl_len]; exact h)
  refine ⟨by rw [gent_len h]; exact hl.1, hl.2.1, fun i v hi => ?_⟩
  unfold gent at hi
  have hlt : i < (gsl vs).length := by
    by_cases hlt : i < (gsl vs).length
    · exact hlt
    · rw [List.getElem?_append_right (by omega)] at hi
      have := List.eq_of_mem_replicate (List.mem_of_getElem? hi)
      cases this
  rw [List.getElem?_append_left hlt] at hi
  have := gsl_at ad vs i v hi
  rw [List.getElem?_toArray, List.getElem?_append_left (by rw [gsl_len]; exact hlt)]
  exact this
/-- a method: name, code, locals, answer; constant pool; the class if it is a constructor; instructions; what its calls mean (kind: 0 static, 1 an object's, 2 constructor; which method) -/
abbrev gMt : Type := MethodName × ByteArray × Nat × Option FieldType × gK × Option Nat × List (Nat × Instr × Nat) × (Nat → Option (Nat × Nat)) × Nat × Nat × List Nat
abbrev gmN (t : gMt) : MethodName := t.1
abbrev gmB (t : gMt) : ByteArray := t.2.1
abbrev gmL (t : gMt) : Nat := t.2.2.1
abbrev gmR (t : gMt) : Option FieldType := t.2.2.2.1
abbrev gmK (t : gMt) : gK := t.2.2.2.2.1
abbrev gmI (t : gMt) : Option Nat := t.2.2.2.2.2.1
abbrev gmC (t : gMt) : List (Nat × Instr × Nat) := t.2.2.2.2.2.2.1
abbrev gmT (t : gMt) : Nat → Option (Nat × Nat) := t.2.2.2.2.2.2.2.1
/-- how many arguments, the object itself not counted -/
abbrev gmA (t : gMt) : Nat := t.2.2.2.2.2.2.2.2.1
/-- the number of its class among the classes -/
abbrev gmO (t : gMt) : Nat := t.2.2.2.2.2.2.2.2.2.1
/-- places at which a run stops besides its answers: where it throws, where the law calls what may throw -/
abbrev gmE (t : gMt) : List Nat := t.2.2.2.2.2.2.2.2.2.2
def glk (pc : Nat) : List (Nat × Instr × Nat) → Option (Instr × Nat)
  | [] => none
  | q :: l => if q.1 = pc then some q.2 else glk pc l
/-- the answer with which a method ends here -/
def gret (rt : Option FieldType) (I : Instr) (n : Nat) (S : List Value) : Option (Option Value) := match I with
  | .ireturn => match S with
    | [.int v] => match rt with
      | some .int => if n = 1 then some (some (.int v)) else none
      | some .boolean => if n = 1 ∧ (v = 0 ∨ v = 1) then some (some (.int v)) else none
      | some .byte => if n = 1 ∧ v.toInt8.toInt32 = v then some (some (.int v)) else none
      | _ => none
    | _ => none
  | .lreturn => match S with
    | [.long v] => if n = 1 ∧ rt = some .long then some (some (.long v)) else none
    | _ => none
  | .areturn => match S with
    | [.ref a] => match rt with
      | some (.object _) => if n = 1 then some (some (.ref a)) else none
      | some (.array _) => if n = 1 then some (some (.ref a)) else none
      | _ => none
    | _ => none
  | .return_ => if n = 1 ∧ rt = none ∧ S = [] then some none else none
  | _ => none
def gexit (I : Instr) : Bool := match I with
  | .ireturn | .lreturn | .areturn | .return_ => true
  | _ => false
/-- which call an instruction is: kind and place in the constant pool -/
def gci (I : Instr) : Option (Nat × Nat) := match I with
  | .invokestatic idx => some (0, idx)
  | .invokevirtual idx => some (1, idx)
  | .invokespecial idx => some (2, idx)
  | _ => none
def gsum (S : List Value) : Nat := (S.map fun v => v.category).sum
/-- the arguments of a call, and what is below them -/
def gargs (k na : Nat) (S : List Value) : Option (List Value × List Value) :=
  if k = 0 then (if na ≤ S.length ∧ gsum (S.drop na) ≤ 8 then some ((S.take na).reverse, S.drop na) else none)
  else match S.drop na with
    | .ref b :: rest => if gsum rest ≤ 8 then some (.ref b :: (S.take na).reverse, rest) else none
    | _ => none
