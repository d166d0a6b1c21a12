/-! ===== tables of the pure machine: what is to be decided ===== -/
def gas {α : Type} : List (Nat × α) → Nat → Option α
  | [], _ => none
  | q :: l, i => if q.1 = i then some q.2 else gas l i
theorem gas_mem {α : Type} : ∀ {l : List (Nat × α)} {i : Nat} {v : α}, gas l i = some v → (i, v) ∈ l
  | [], i, v, h => by cases h
  | q :: l, i, v, h => by
    unfold gas at h
    split at h
    · rename_i e
      cases h
      rw [← e]
      exact List.mem_cons_self
    · exact List.mem_cons_of_mem _ (gas_mem h)
def gGT : List Cond := lw_tbl.filter goodWord
def gpos (p : Nat) (w : Cond) : Bool := (match lw_tbl[p]? with
  | some w' => decide (w' = w)
  | none => false) && goodWord w
theorem gpos_in {p : Nat} {w : Cond} (h : gpos p w = true) : w ∈ gGT := by
  unfold gpos at h
  rw [Bool.and_eq_true] at h
  obtain ⟨h1, h2⟩ := h
  refine List.mem_filter.mpr ⟨?_, h2⟩
  split at h1
  · rename_i w' hw
    have e : w' = w := by simpa using h1
    subst e
    exact List.mem_of_getElem? hw
  · cases h1
theorem gGT_good : ∀ w ∈ gGT, goodWord w = true := fun _ h => (List.mem_filter.mp h).2
theorem gzip {α β : Type} {l : List α} {m : List β} {f : α → β → Bool} (hl : l.length = m.length) (h : (l.zip m).all (fun q => f q.1 q.2) = true) {a : α} (ha : a ∈ l) : ∃ b, f a b = true := by
  obtain ⟨i, hi, rfl⟩ := List.getElem_of_mem ha
  refine ⟨m[i]'(by omega), ?_⟩
  have hm : (l[i], m[i]'(by omega)) ∈ l.zip m := by
    rw [← List.getElem_zip (h := by rw [List.length_zip]; omega)]
    exact List.getElem_mem _
  exact List.all_eq_true.mp h _ hm
def gckF (cl : List vw_C) (own : String) (e : Nat × Nat × Nat) (p : Nat) : Bool := match cl[e.2.1]? with
  | some q => decide (e.2.2 < q.2.2) && gpos p (Cond.fieldLink own e.1 (q.2.1 e.2.2).1 (q.2.1 e.2.2).2.1 (q.2.1 e.2.2).2.2.1)
  | none => false
theorem gckF_ok {cl : List vw_C} {own : String} {l : List (Nat × Nat × Nat)} {m : List Nat} (hl : l.length = m.length) (h : (l.zip m).all (fun q => gckF cl own q.1 q.2) = true) : gFl cl gGT own (gas l) := by
  intro idx ci k hk
  obtain ⟨p, hp⟩ := gzip hl h (gas_mem hk)
  unfold gckF at hp
  split at hp
  · rename_i q hq
    rw [Bool.and_eq_true] at hp
    exact ⟨q, hq, by simpa using hp.1, gpos_in hp.2⟩
  · cases hp
theorem gckI_ok {own : String} {l : List (Nat × Int32)} {m : List Nat} (hl : l.length = m.length) (h : (l.zip m).all (fun q => gpos q.2 (Cond.constant own q.1.1 q.1.2)) = true) : ∀ idx v, gas l idx = some v → Cond.constant own idx v ∈ gGT := fun idx v hv => by
  obtain ⟨p, hp⟩ := gzip (f := fun a b => gpos b (Cond.constant own a.1 a.2)) hl h (gas_mem hv)
  exact gpos_in hp
theorem gckL_ok {own : String} {l : List (Nat × Int64)} {m : List Nat} (hl : l.length = m.length) (h : (l.zip m).all (fun q => gpos q.2 (Cond.constantLong own q.1.1 q.1.2)) = true) : ∀ idx v, gas l idx = some v → Cond.constantLong own idx v ∈ gGT := fun idx v hv => by
  obtain ⟨p, hp⟩ := gzip (f := fun a b => gpos b (Cond.constantLong own a.1 a.2)) hl h (gas_mem hv)
  exact gpos_in hp
/-- statics: the place among the statics, and of the link in the table (or among the nest's) -/
def gckS (X : gX) (own : String) (e : Nat × Nat) (p : Nat × Nat × Bool) : Bool := match X.1[p.1]? with
  | some q => decide (q.1 = e.2) && (if p.2.2 = true then gpos p.2.1 (Cond.fieldLink own e.1 q.2.1 q.2.2.1 q.2.2.2) else (match X.2.1[p.2.1]? with
    | some w => decide (w.1 = own) && decide (w.2.1 = e.1) && decide (w.2.2.1 = q.2.1) && decide (w.2.2.2.1 = q.2.2.1) && decide (w.2.2.2.2.1 = q.2.2.2)
    | none => false))
  | none => false
theorem gckS_ok {X : gX} {own : String} {l : List (Nat × Nat)} {m : List (Nat × Nat × Bool)} (hl : l.length = m.length) (h : (l.zip m).all (fun q => gckS X own q.1 q.2) = true) : ∀ idx a, gas l idx = some a → ∃ C nm d, (a, C, nm, d) ∈ X.1 ∧ (Cond.fieldLink own idx C nm d ∈ gGT ∨ ∃ host, (own, idx, C, nm, d, host) ∈ X.2.1) := fun idx a ha => by
  obtain ⟨p, hp⟩ := gzip hl h (gas_mem ha)
  unfold gckS at hp
  split at hp
  · rename_i q hq
    rw [Bool.and_eq_true] at hp
    obtain ⟨h1, h2⟩ := hp
    obtain ⟨a', C, nm, d⟩ := q
    have e : a' = a := by simpa using h1
    subst e
    refine ⟨C, nm, d, List.mem_of_getElem? hq, ?_⟩
    split at h2
    · exact Or.inl (gpos_in h2)
    · split at h2
      · rename_i w hw
        obtain ⟨w1, w2, w3, w4, w5, w6⟩ := w
        simp only [Bool.and_eq_true, decide_eq_true_eq] at h2
        obtain ⟨⟨⟨⟨rfl, rfl⟩, rfl⟩, rfl⟩, rfl⟩ := h2
        exact Or.inr ⟨w6, List.mem_of_getElem? hw⟩
      · cases h2
  · cases hp
def gckC (cl : List vw_C) (G : gG) (X : gX) (own : String) (e : Nat × (Nat ⊕ Nat)) (p : Nat × Nat × Nat) : Bool := match e.2 with
  | .inl ci => (match cl[ci]? with
    | some q => gpos p.1 (Cond.classLink own e.1 q.1) && gpos p.2.1 (Cond.instantiable q.1 q.2.2) && gpos p.2.2 (Cond.initialized q.1)
    | none => false)
  | .inr t => (match G.1[t]? with
    | some (.object C) => gpos p.1 (Cond.classLink own (e.1 - 100000) C) && decide (C ∈ X.2.2.2)
    | _ => false)
theorem gckC_ok {cl : List vw_C} {G : gG} {X : gX} {own : String} {l : List (Nat × (Nat ⊕ Nat))} {m : List (Nat × Nat × Nat)} (hl : l.length = m.length) (h : (l.zip m).all (fun q => gckC cl G X own q.1 q.2) = true) :
    (∀ idx ci, gas l idx = some (.inl ci) → ∃ q : vw_C, cl[ci]? = some q ∧ Cond.classLink own idx q.1 ∈ gGT ∧ Cond.instantiable q.1 q.2.2 ∈ gGT ∧ Cond.initialized q.1 ∈ gGT) ∧
    (∀ idx u, gas l (idx + 100000) = some (.inr u) → ∃ C, G.1[u]? = some (.object C) ∧ Cond.classLink own idx C ∈ gGT ∧ C ∈ X.2.2.2) := by
  refine ⟨fun idx ci hc => ?_, fun idx u hu => ?_⟩
  · obtain ⟨p, hp⟩ := gzip hl h (gas_mem hc)
    unfold gckC at hp
    dsimp only at hp
    split at hp
    · rename_i q hq
      simp only [Bool.and_eq_true] at hp
      exact ⟨q, hq, gpos_in hp.1.1, gpos_in hp.1.2, gpos_in hp.2⟩
    · cases hp
  · obtain ⟨p, hp⟩ := gzip hl h (gas_mem hu)
    unfold gckC at hp
    dsimp only at hp
    split at hp
    · rename_i C hC
      simp only [Bool.and_eq_true, decide_eq_true_eq] at hp
      rw [Nat.add_sub_cancel] at hp
      exact ⟨C, hC, gpos_in hp.1, hp.2⟩
    · cases hp
/-- calls: places of the link (or among the nest's), of static or instanceMethod, of selects -/
def gckM (P : Nat → Option gMt) (cl : List vw_C) (X : gX) (own : String) (e : Nat × Nat × Nat) (p : Nat × Bool × Nat × Nat) : Bool :=
  if e.2.1 = 3 then decide (e.2.2 = 0) && gpos p.1 (Cond.methodLink own e.1 arraycopyName) else if e.2.1 = 4 then gpos p.1 (Cond.methodLink own e.1 objectInit) else
  match P e.2.2 with
  | some t => (if p.2.1 = true then gpos p.1 (Cond.methodLink own e.1 (gmN t)) else (match X.2.2.1[p.1]? with
      | some w => decide (w.1 = own) && decide (w.2.1 = e.1) && decide (w.2.2.1 = gmN t)
      | none => false)) &&
    (if e.2.1 = 0 then gpos p.2.2.1 (Cond.static (gmN t)) else if e.2.1 = 1 then gpos p.2.2.1 (Cond.instanceMethod (gmN t)) && gpos p.2.2.2 (Cond.selects (gmN t).cls (gmN t) (gmN t)) && (match cl[gmO t]? with
        | some q => decide (q.1 = (gmN t).cls)
        | none => false)
      else if e.2.1 = 2 then gpos p.2.2.1 (Cond.instanceMethod (gmN t)) && decide ((gmN t).name = "<init>") && decide (gmR t = none) else false)
  | none => false
theorem gckM_ok {P : Nat → Option gMt} {cl : List vw_C} {X : gX} {own : String} {l : List (Nat × Nat × Nat)} {m : List (Nat × Bool × Nat × Nat)} (hl : l.length = m.length) (h : (l.zip m).all (fun q => gckM P cl X own q.1 q.2) = true) :
    ∀ idx k y t', gas l idx = some (k, y) → k < 3 → P y = some t' → (Cond.methodLink own idx (gmN t') ∈ gGT ∨ ∃ host, (own, idx, gmN t', host) ∈ X.2.2.1) ∧ (k = 0 → Cond.static (gmN t') ∈ gGT) ∧
    (k = 1 → Cond.instanceMethod (gmN t') ∈ gGT ∧ Cond.selects (gmN t').cls (gmN t') (gmN t') ∈ gGT ∧ ∃ q : vw_C, cl[gmO t']? = some q ∧ q.1 = (gmN t').cls) ∧ (k = 2 → (gmN t').name = "<init>" ∧ Cond.instanceMethod (gmN t') ∈ gGT ∧ gmR t' = none) := by
  intro idx k y t' hk hk3 hP
  obtain ⟨p, hp⟩ := gzip hl h (gas_mem hk)
  unfold gckM at hp
  dsimp only at hp
  rw [if_neg (by omega), if_neg (by omega), hP] at hp
  dsimp only at hp
  rw [Bool.and_eq_true] at hp
  obtain ⟨h1, h2⟩ := hp
  refine ⟨?_, fun e => ?_, fun e => ?_, fun e => ?_⟩
  · split at h1
    · exact Or.inl (gpos_in h1)
    · split at h1
      · rename_i w hw
        obtain ⟨w1, w2, w3, w4⟩ := w
        simp only [Bool.and_eq_true, decide_eq_true_eq] at h1
        obtain ⟨⟨rfl, rfl⟩, rfl⟩ := h1
        exact Or.inr ⟨w4, List.mem_of_getElem? hw⟩
      · cases h1
  · subst e
    rw [if_pos rfl] at h2
    exact gpos_in h2
  · subst e
    rw [if_neg (by decide), if_pos rfl] at h2
    simp only [Bool.and_eq_true] at h2
    refine ⟨gpos_in h2.1.1, gpos_in h2.1.2, ?_⟩
    have h3 := h2.2
    split at h3
    · rename_i q hq
      exact ⟨q, hq, by simpa using h3⟩
    · cases h3
  · subst e
    rw [if_neg (by decide), if_neg (by decide), if_pos rfl] at h2
    simp only [Bool.and_eq_true, decide_eq_true_eq] at h2
    exact ⟨h2.1.2, gpos_in h2.1.1, h2.2⟩
theorem gckM_cp {P : Nat → Option gMt} {cl : List vw_C} {X : gX} {own : String} {l : List (Nat × Nat × Nat)} {m : List (Nat × Bool × Nat × Nat)} (hl : l.length = m.length) (h : (l.zip m).all (fun q => gckM P cl X own q.1 q.2) = true) (h2 : Cond.native arraycopyName ∈ gGT) (h3 : Cond.static arraycopyName ∈ gGT) (h4 : Cond.initialized "java/lang/System" ∈ gGT) :
    ∀ idx, gas l idx = some (3, 0) → Cond.methodLink own idx arraycopyName ∈ gGT ∧ Cond.native arraycopyName ∈ gGT ∧ Cond.static arraycopyName ∈ gGT ∧ Cond.initialized "java/lang/System" ∈ gGT := by
  intro idx hk
  obtain ⟨p, hp⟩ := gzip hl h (gas_mem hk)
  unfold gckM at hp
  dsimp only at hp
  rw [if_pos rfl, Bool.and_eq_true] at hp
  exact ⟨gpos_in hp.2, h2, h3, h4⟩
theorem gckM_ob {P : Nat → Option gMt} {cl : List vw_C} {X : gX} {own : String} {l : List (Nat × Nat × Nat)} {m : List (Nat × Bool × Nat × Nat)} (hl : l.length = m.length) (h : (l.zip m).all (fun q => gckM P cl X own q.1 q.2) = true) (h2 : Cond.instanceMethod objectInit ∈ gGT) (h3 : Cond.code objectInit ⟨#[0xb1]⟩ 1 none ∈ gGT) :
    ∀ idx, gas l idx = some (4, 0) → Cond.methodLink own idx objectInit ∈ gGT ∧ Cond.instanceMethod objectInit ∈ gGT ∧ Cond.code objectInit ⟨#[0xb1]⟩ 1 none ∈ gGT := by
  intro idx hk
  obtain ⟨p, hp⟩ := gzip hl h (gas_mem hk)
  unfold gckM at hp
  dsimp only at hp
  rw [if_neg (by decide), if_pos rfl] at hp
  exact ⟨gpos_in hp, h2, h3⟩
/-- the instructions as the machine decodes them -/
def gckD (b : ByteArray) (l : List (Nat × Instr × Nat)) : Bool := l.all (fun q => match decode b q.1 with
  | .ok r => decide (r = q.2)
  | .error _ => false)
theorem gckD_ok {b : ByteArray} {l : List (Nat × Instr × Nat)} (h : gckD b l = true) : ∀ pc I n, glk pc l = some (I, n) → decode b pc = .ok (I, n) := by
  intro pc I n hk
  have hm : (pc, I, n) ∈ l := by
    clear h
    induction l with
    | nil => cases hk
    | cons q l ih =>
      obtain ⟨q1, q2⟩ := q
      unfold glk at hk
      split at hk
      · rename_i e
        cases hk
        subst e
        exact List.mem_cons_self
      · exact List.mem_cons_of_mem _ (ih hk)
  have h1 := List.all_eq_true.mp h _ hm
  dsimp only at h1
  split at h1
  · rename_i r hr
    have e : r = (I, n) := by simpa using h1
    rw [hr, e]
  · cases h1
