/-! ===== the pure machine, VIII: the run ===== -/
def grecv (n0 : Nat) (k : Nat) (t : gMt) (vs : List Value) (h : gH) : Bool :=
  if k = 1 then (match vs with
    | .ref b :: _ => decide (n0 ≤ b) && decide (b < h.1) && decide (h.2.2.1 b = some (.inr (gmO t)))
    | _ => false) else true
/-- whom a call calls, with what, and what stays below -/
def gcal (P : Nat → Option gMt) (n0 : Nat) (t : gMt) (k idx : Nat) (S : List Value) (h : gH) : Option (gMt × List Value × List Value) := match gmT t idx with
  | some (k', y) => if k = k' then (match P y with
    | some t' => match gargs k (gmA t') S with
      | some (vs, rest) => if (gsl vs).length ≤ gmL t' ∧ grecv n0 k t' vs h = true then some (t', vs, rest) else none
      | none => none
    | none => none) else none
  | none => none
/-- the answer of a method that has come to this place -/
def gfin (t : gMt) (pc : Nat) (S : List Value) : Option (Option Value) := match glk pc (gmC t) with
  | some (I, n) => gret (gmR t) I n S
  | none => none
def gpop1 (S : List Value) : Option (List Value) := match S with
  | .ref _ :: S' => if gsum S' ≤ 8 then some S' else none
  | _ => none
theorem gpop1_ok {S S' : List Value} (h : gpop1 S = some S') : ∃ b, S = .ref b :: S' ∧ gsum S' ≤ 8 := by
  unfold gpop1 at h
  split at h
  · split at h
    · rename_i hsm
      cases h
      exact ⟨_, rfl, hsm⟩
    · cases h
  · cases h
/-- the run of a method to its end: n bounds its steps, d the calls that stand open -/
def go (P : Nat → Option gMt) (G : gG) (cn : Nat → Option Nat) : Nat → Nat → gMt → Nat → gL → List Value → gH → Option (gR × gL)
  | 0, _, _, _, _, _, _ => none
  | n + 1, d, t, pc, L, S, h => match glk pc (gmC t) with
    | none => none
    | some (I, len) => if gexit I = true ∨ pc ∈ gmE t then some ((pc, S, h), L) else match gci I with
      | some (k, idx) => if d = 0 ∨ ¬ len = 3 then none else if gmT t idx = some (3, 0) then (if k = 0 then (match gcopy G S h with
          | some (S', h') => go P G cn n d t (pc + 3) L S' h'
          | none => none) else none) else if gmT t idx = some (4, 0) then (if k = 2 then (match gpop1 S with
          | some S' => go P G cn n d t (pc + 3) L S' h
          | none => none) else none) else match gcal P G.2.2.2.2 t k idx S h with
          | some (t', vs, rest) => match go P G cn n (d - 1) t' 0 (gent vs (gmL t')) [] h with
            | some ((pcx, Sx, hx), _) => match gfin t' pcx Sx with
              | some r => go P G cn n d t (pc + 3) L (r.toList ++ rest) hx
              | none => none
            | none => none
          | none => none
      | none => match gst0 I len pc L S with
        | some (pc', L', S') => go P G cn n d t pc' L' S' h
        | none => match gst1 G cn (gmK t) (gmI t) I len pc S h with
          | some (pc', S', h') => go P G cn n d t pc' L S' h'
          | none => none
theorem gst1_grow {G : gG} {cn : Nat → Option Nat} {K : gK} {ini : Option Nat} {I : Instr} {n pc pc' : Nat} {S S' : List Value} {h h' : gH} (g : gst1 G cn K ini I n pc S h = some (pc', S', h')) : h.1 ≤ h'.1 ∧ h.2.1 ≤ h'.2.1 := by
  have key : ∀ {o : Option gR}, o = some (pc', S', h') → (∀ r, o = some r → h.1 ≤ r.2.2.1 ∧ h.2.1 ≤ r.2.2.2.1) → h.1 ≤ h'.1 ∧ h.2.1 ≤ h'.2.1 := fun e k => k _ e
  refine key g (fun r hr => ?_)
  clear g key
  cases I <;> simp only [gst1] at hr
  all_goals first
    | (cases hr; done)
    | ((try simp only [ggetf, gputf, gxald, gxlen, gxast, gilast, gaast, gnewa, gnewq, gnewo] at hr)
       repeat' split at hr
       all_goals first | (cases hr; done) | (cases hr; exact ⟨Nat.le_refl _, Nat.le_refl _⟩) | (cases hr; exact ⟨Nat.le_succ _, Nat.le_add_right _ _⟩))
theorem gcopy_grow {G : gG} {S S' : List Value} {h h' : gH} (g : gcopy G S h = some (S', h')) : h.1 ≤ h'.1 ∧ h.2.1 ≤ h'.2.1 := by
  unfold gcopy at g
  repeat' split at g
  all_goals first | (cases g; done) | (cases g; exact ⟨Nat.le_refl _, Nat.le_refl _⟩)
theorem go_grow {P : Nat → Option gMt} {G : gG} {cn : Nat → Option Nat} : ∀ (n d : Nat) (t : gMt) (pc : Nat) (L : gL) (S : List Value) (h : gH) (r : gR) (L' : gL), go P G cn n d t pc L S h = some (r, L') → h.1 ≤ r.2.2.1 ∧ h.2.1 ≤ r.2.2.2.1 := by
  intro n
  induction n with
  | zero => intro d t pc L S h r L' g; cases g
  | succ n ih =>
    intro d t pc L S h r L' g
    rw [go] at g
    split at g
    · cases g
    · split at g
      · cases g; exact ⟨Nat.le_refl _, Nat.le_refl _⟩
      · split at g
        · split at g
          · cases g
          · split at g
            · split at g
              · split at g
                · rename_i hc
                  have h1 := gcopy_grow hc
                  have h2 := ih _ _ _ _ _ _ _ _ g
                  omega
                · cases g
              · cases g
            · split at g
              · split at g
                · split at g
                  · exact ih _ _ _ _ _ _ _ _ g
                  · cases g
                · cases g
              · split at g
                · split at g
                  · rename_i hg
                    have h1 := ih _ _ _ _ _ _ _ _ hg
                    split at g
                    · have h2 := ih _ _ _ _ _ _ _ _ g
                      have h3 : h.1 ≤ _ := h1.1
                      have h4 : h.2.1 ≤ _ := h1.2
                      exact ⟨Nat.le_trans h3 h2.1, Nat.le_trans h4 h2.2⟩
                    · cases g
                  · cases g
                · cases g
        · split at g
          · exact ih _ _ _ _ _ _ _ _ g
          · split at g
            · rename_i hs
              have h1 := gst1_grow hs
              have h2 := ih _ _ _ _ _ _ _ _ g
              exact ⟨Nat.le_trans h1.1 h2.1, Nat.le_trans h1.2 h2.2⟩
            · cases g
