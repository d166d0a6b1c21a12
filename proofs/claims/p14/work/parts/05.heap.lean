/-! ===== the pure machine, III: the heap; fields ===== -/
/-- the pure heap: how many cells, how many slots, each cell's kind (an array type, a class, or nothing known), length, contents -/
abbrev gH : Type := Nat × Nat × (Nat → Option (Nat ⊕ Nat)) × (Nat → Nat) × (Nat → Nat → Value)
def gup (M : Nat → Nat → Value) (a k : Nat) (v : Value) : Nat → Nat → Value := fun b j => if b = a then (if j = k then v else M b j) else M b j
def gput (h : gH) (a k : Nat) (v : Value) : gH := (h.1, h.2.1, h.2.2.1, h.2.2.2.1, gup h.2.2.2.2 a k v)
def gnew (h : gH) (t : Option (Nat ⊕ Nat)) (len slots : Nat) (f : Nat → Value) : gH :=
  (h.1 + 1, h.2.1 + slots, fun b => if b = h.1 then t else h.2.2.1 b, fun b => if b = h.1 then len else h.2.2.2.1 b, fun b => if b = h.1 then f else h.2.2.2.2 b)
/-- what the launch fixes: classes' numbers and slots, array classes' numbers; the claim's tables: classes, array types; addresses -/
abbrev gD : Type := va_G × (Nat → ClassId)
def gAt (D : gD) (cl : List vw_C) (ad : Nat → Nat) (h : gH) (a : Nat) (H : Heap) : Prop := match h.2.2.1 a with
  | none => True
  | some (.inl t) => H[ad a]? = some (arrV (D.2 t) (h.2.2.2.1 a) (fun j => gtv ad (h.2.2.2.2 a j)))
  | some (.inr ci) => ∃ r : vw_C, cl[ci]? = some r ∧ t_OB (ad a) (D.1.1 ci) r.2.2 (D.1.2 ci) H (fun k => gtv ad (h.2.2.2.2 a k))
/-- cells that were there before: int arrays, only read -/
def gFo (ad : Nat → Nat) (n0 : Nat) (U : State) (h : gH) (H : Heap) : Prop := ∀ a, a < n0 → h.2.2.1 a = some (.inl 0) ∧ ∃ cell : Cell, H[ad a]? = some cell ∧ U.isArrayOf cell .int ∧ cell.vm ≠ .unknown ∧ h.2.2.2.1 a ≤ cell.slots.size ∧ cell.slots.size.toInt32 = nI (h.2.2.2.1 a) ∧ ∀ j, j < h.2.2.2.1 a → cell.slots[j]? = some (gtv ad (h.2.2.2.2 a j))
def gRp (D : gD) (cl : List vw_C) (ad : Nat → Nat) (B n0 : Nat) (U : State) (h : gH) (H : Heap) : Prop := H.size = B + (h.1 - n0) ∧ n0 ≤ h.1 ∧ (∀ a, n0 ≤ a → a < h.1 → gAt D cl ad h a H) ∧ gFo ad n0 U h H
def gAd (ad : Nat → Nat) (B n0 : Nat) : Prop := (∀ a, a < n0 → ad a < B) ∧ ∀ k, ad (n0 + k) = B + k
def gKn (D : gD) (cl : List vw_C) (tys : List FieldType) (U : State) : Prop :=
  (∀ (c : Nat) (q : vw_C), cl[c]? = some q → u_Kn U q.1 q.2.1 q.2.2 (D.1.1 c) (D.1.2 c)) ∧ ∀ (t : Nat) (ty : FieldType), tys[t]? = some ty → ArrOfT U (D.2 t) ty ∧ va_RA U (D.2 t) ty
theorem gKn.moved {D : gD} {cl : List vw_C} {tys : List FieldType} {u U : State} (hvm : u.vm.Alike U.vm) (h : gKn D cl tys u) : gKn D cl tys U :=
  ⟨fun c q hq => u_Kn_moved hvm (h.1 c q hq), fun t ty ht => ⟨arrOfT_moved hvm (h.2 t ty ht).1, (h.2 t ty ht).2.moved hvm⟩⟩
theorem gKn.K {D : gD} {cl : List vw_C} {tys : List FieldType} {U : State} (h : gKn D cl tys U) : va_K D.1 cl [] U := ⟨h.1, fun k q hk => by simp at hk⟩
theorem gAd.hi {ad : Nat → Nat} {B n0 a : Nat} (h : gAd ad B n0) (ha : n0 ≤ a) : ad a = B + (a - n0) := by
  have h1 := h.2 (a - n0)
  rwa [Nat.add_sub_cancel' ha] at h1
theorem gAd.ne {ad : Nat → Nat} {B n0 a b : Nat} (h : gAd ad B n0) (ha : n0 ≤ a) (hab : b ≠ a) : ad b ≠ ad a := by
  rw [h.hi ha]
  by_cases hb : n0 ≤ b
  · rw [h.hi hb]; omega
  · have := h.1 b (by omega)
    omega
theorem gAt.kept {D : gD} {cl : List vw_C} {ad : Nat → Nat} {h : gH} {a : Nat} {H H1 : Heap} (g : gAt D cl ad h a H) (hq : H1[ad a]? = H[ad a]?) : gAt D cl ad h a H1 := by
  unfold gAt at g ⊢
  split
  · trivial
  · rename_i t ht
    rw [ht] at g
    rw [hq]; exact g
  · rename_i ci ht
    rw [ht] at g
    obtain ⟨r, h1, h2⟩ := g
    exact ⟨r, h1, h2.kept hq⟩
/-- another contents of one cell -/
theorem gFo.kept {ad : Nat → Nat} {n0 : Nat} {U : State} {h h' : gH} {H H1 : Heap} (g : gFo ad n0 U h H) (hh : ∀ a, a < n0 → h'.2.2.1 a = h.2.2.1 a ∧ h'.2.2.2.1 a = h.2.2.2.1 a ∧ ∀ j, h'.2.2.2.2 a j = h.2.2.2.2 a j) (hq : ∀ a, a < n0 → H1[ad a]? = H[ad a]?) : gFo ad n0 U h' H1 := by
  intro a ha
  obtain ⟨g1, cell, g2, g3, g4, g5, g6, g7⟩ := g a ha
  obtain ⟨e1, e2, e3⟩ := hh a ha
  refine ⟨e1.trans g1, cell, (hq a ha).trans g2, g3, g4, by rw [e2]; exact g5, by rw [e2]; exact g6, fun j hj => ?_⟩
  rw [e3]
  exact g7 j (by rw [← e2]; exact hj)
theorem gFo.moved {ad : Nat → Nat} {n0 : Nat} {u U : State} {h : gH} {H : Heap} (hvm : u.vm.Alike U.vm) (g : gFo ad n0 u h H) : gFo ad n0 U h H := by
  intro a ha
  obtain ⟨g1, cell, g2, g3, g4⟩ := g a ha
  exact ⟨g1, cell, g2, State.isArrayOf_alike hvm g3, g4⟩
theorem gRp.moved {D : gD} {cl : List vw_C} {ad : Nat → Nat} {B n0 : Nat} {u U : State} {h : gH} {H : Heap} (hvm : u.vm.Alike U.vm) (g : gRp D cl ad B n0 u h H) : gRp D cl ad B n0 U h H := ⟨g.1, g.2.1, g.2.2.1, g.2.2.2.moved hvm⟩
theorem gRp.set {D : gD} {cl : List vw_C} {ad : Nat → Nat} {B n0 : Nat} {s : State} {h : gH} {H H1 : Heap} {a k : Nat} {v : Value} (hA : gAd ad B n0) (g : gRp D cl ad B n0 s h H) (ha0 : n0 ≤ a) (hs : H1.size = H.size) (ho : ∀ q, q ≠ ad a → H1[q]? = H[q]?)
    (hc : gAt D cl ad (gput h a k v) a H1) : gRp D cl ad B n0 s (gput h a k v) H1 := by
  have key : ∀ b, b ≠ a → ∀ j, (gput h a k v).2.2.2.2 b j = h.2.2.2.2 b j := fun b hb j => by
    show gup h.2.2.2.2 a k v b j = _
    rw [gup, if_neg hb]
  refine ⟨hs.trans g.1, g.2.1, fun b hb0 hb => ?_, g.2.2.2.kept (fun b hb => ⟨rfl, rfl, key b (by omega)⟩) (fun b hb => ho _ (hA.ne ha0 (by omega)))⟩
  by_cases hba : b = a
  · subst hba; exact hc
  · have g1 := (g.2.2.1 b hb0 hb).kept (ho _ (hA.ne ha0 hba))
    unfold gAt at g1 ⊢
    have e : (fun j => gtv ad ((gput h a k v).2.2.2.2 b j)) = (fun j => gtv ad (h.2.2.2.2 b j)) := by
      funext j
      rw [key b hba]
    rw [e]
    exact g1
/-- of a method's class: what the instructions of its constant pool mean -/
def gFl (cl : List vw_C) (Ts : List Cond) (own : String) (fl : Nat → Option (Nat × Nat)) : Prop :=
  ∀ idx ci k, fl idx = some (ci, k) → ∃ q : vw_C, cl[ci]? = some q ∧ k < q.2.2 ∧ Cond.fieldLink own idx (q.2.1 k).1 (q.2.1 k).2.1 (q.2.1 k).2.2.1 ∈ Ts
/-- the classes' tables -/
def gCl (cl : List vw_C) (fty : Nat → Nat → FieldType) (Ts : List Cond) : Prop :=
  ∀ ci (q : vw_C), cl[ci]? = some q → (∀ w ∈ u_ws q.1 q.2.1 q.2.2, w ∈ Ts) ∧ (∀ k, k < q.2.2 → parseFieldDescriptor (q.2.1 k).2.2.1 = some (fty ci k)) ∧ (∀ a, a < q.2.2 → ∀ b, b < q.2.2 → a ≠ b → (q.2.1 a).2.1 ≠ (q.2.1 b).2.1)
def gfit (ty : FieldType) (v : Value) : Bool := match ty, v with
  | .int, .int _ => true
  | .long, .long _ => true
  | .boolean, .int x => x == 0 || x == 1
  | .object _, .ref _ => true
  | .array _, .ref _ => true
  | _, _ => false
theorem gfit_fits {ad : Nat → Nat} {ty : FieldType} {v : Value} (h : gfit ty v = true) : narrow ty (gtv ad v) = gtv ad v ∧ fits ty (gtv ad v) = true := by
  unfold gfit at h
  split at h
  · exact ⟨rfl, rfl⟩
  · exact ⟨rfl, rfl⟩
  · rename_i x
    have h2 : x = 0 ∨ x = 1 := by simpa using h
    rcases h2 with rfl | rfl <;> exact ⟨rfl, rfl⟩
  · exact ⟨rfl, rfl⟩
  · exact ⟨rfl, rfl⟩
  · cases h
section GH
variable {p : Program} {l : Launch} {e : Env} {R : Room} {s : State} {m : MethodId} {args : Array Value} {below : List Frame} {meth : Method} {c : Code} {H : Heap} {locs : List Loc} {cells slots : Nat} {Q : State → Prop}
variable {cc : ByteArray} {pc : Nat} {ls : Array Slot} {rest : List Value}
variable {D : gD} {cl : List vw_C} {tys : List FieldType} {ad : Nat → Nat} {B n0 : Nat} {h : gH} {Ts : List Cond} {own : String} {fl : Nat → Option (Nat × Nat)} {fty : Nat → Nat → FieldType}
theorem gw_get (hx : p.tables.exec = Jvm.exec) (hb : c.code = cc) (hts : ∀ w ∈ Ts, w.before args s = true) (hown : s.vm.findClass own = some m.cls) (hK : gKn D cl tys s) (hC : gCl cl fty Ts) (hF : gFl cl Ts own fl) (hR : gRp D cl ad B n0 s h H)
    {index ci k a : Nat} (hfl : fl index = some (ci, k)) (ha0 : n0 ≤ a) (ha : a < h.1) (ht : h.2.2.1 a = some (.inr ci)) (hd : decode cc pc = .ok (.getfield index, 3))
    (kk : W p l e R s m args below meth c H locs cells slots Q (F0 m (pc + 3) ls (gtv ad (h.2.2.2.2 a k) :: rest))) : W p l e R s m args below meth c H locs cells slots Q (F0 m pc ls (.ref (ad a) :: rest)) := by
  obtain ⟨q, hq, hk, hlink⟩ := hF index ci k hfl
  have hat := hR.2.2.1 a ha0 ha
  unfold gAt at hat
  rw [ht] at hat
  obtain ⟨r, h1, cell, q1, q2, q3, q4⟩ := hat
  have hr : r = q := Option.some.inj (h1.symm.trans hq)
  subst hr
  obtain ⟨hS, hfc, kC, hkC, hkind⟩ := hK.1 ci _ hq
  obtain ⟨cf, kf, fi, f, hi, hsl⟩ := hS k hk
  refine W.getf hx hb hown (hts _ hlink) hi (u_facts hfc hkC (u_lays hts (hC ci _ hq).1 hk) hi).1 q1 (by rw [q3]; exact fun h => by cases h) (v := gtv ad (h.2.2.2.2 a k)) ?_ rfl rfl hd kk
  rw [hsl, q4 k hk]
theorem gw_put (hx : p.tables.exec = Jvm.exec) (hb : c.code = cc) (hts : ∀ w ∈ Ts, w.before args s = true) (hown : s.vm.findClass own = some m.cls) (hK : gKn D cl tys s) (hC : gCl cl fty Ts) (hF : gFl cl Ts own fl) (hA : gAd ad B n0) (hR : gRp D cl ad B n0 s h H)
    {index ci k a : Nat} {v : Value} (hfl : fl index = some (ci, k)) (ha0 : n0 ≤ a) (ha : a < h.1) (ht : h.2.2.1 a = some (.inr ci)) (hv : gfit (fty ci k) v = true)
    (hfin : (∃ q : vw_C, cl[ci]? = some q ∧ (q.2.1 k).2.2.2 = false) ∨ (meth.name = "<init>" ∧ ∃ q : vw_C, cl[ci]? = some q ∧ (q.2.1 k).2.2.2 = true ∧ (q.2.1 k).1 = own))
    (hd : decode cc pc = .ok (.putfield index, 3))
    (kk : ∀ (H1 : Heap) (i : Nat), gRp D cl ad B n0 s (gput h a k v) H1 → H1.size = H.size → (∀ q, q ≠ ad a → H1[q]? = H[q]?) → W p l e R s m args below meth c H1 (locs ++ [⟨ad a, i⟩]) cells slots Q (F0 m (pc + 3) ls rest)) :
    W p l e R s m args below meth c H locs cells slots Q (F0 m pc ls (gtv ad v :: .ref (ad a) :: rest)) := by
  obtain ⟨q, hq, hk, hlink⟩ := hF index ci k hfl
  obtain ⟨hin, hty, hnm⟩ := hC ci _ hq
  have hap := va_apart (own := own) hts hin (fty ci) hty hnm hK.K hq
  have hat := hR.2.2.1 a ha0 ha
  unfold gAt at hat
  rw [ht] at hat
  obtain ⟨r, h1, cell, q1, q2, q3, q4⟩ := hat
  have hr : r = q := Option.some.inj (h1.symm.trans hq)
  subst hr
  obtain ⟨hS, hfc, kC, hkC, hkind⟩ := hK.1 ci _ hq
  obtain ⟨cf, kf, fi, f, hi, hsl⟩ := hS k hk
  obtain ⟨hn, hfit⟩ := gfit_fits (ad := ad) hv
  have hst := (u_facts hfc hkC (u_lays hts hin hk) hi).1
  have hlay := hts _ (hin _ (u_in_lay hk))
  unfold u_lay at hlay
  have fin : ∀ H' : Heap, H'[ad a]? = some (cell.setSlot f.slot (gtv ad v)) → H'.size = H.size → (∀ q, q ≠ ad a → H'[q]? = H[q]?) → W p l e R s m args below meth c H' (locs ++ [⟨ad a, f.slot⟩]) cells slots Q (F0 m (pc + 3) ls rest) := by
    intro H' e1 e2 e3
    refine kk H' f.slot (hR.set hA ha0 e2 e3 ?_) e2 e3
    unfold gAt
    rw [show (gput h a k v).2.2.1 a = some (.inr ci) from ht]
    refine ⟨_, hq, ?_⟩
    rw [hsl] at e1
    refine t_OB.to (V := updV (fun k => gtv ad (h.2.2.2.2 a k)) k (gtv ad v)) ⟨_, e1, q2, q3, t_set q4 hap hk (gtv ad v)⟩ (fun j _ => ?_)
    show updV _ k _ j = gtv ad (gup h.2.2.2.2 a k v a j)
    unfold updV gup
    rw [if_pos rfl]
    split <;> rfl
  rcases hfin with ⟨q', hq', hf⟩ | ⟨hinit, q', hq', hf, hdecl⟩
  · cases hq.symm.trans hq'
    rw [if_neg (by rw [hf]; decide)] at hlay
    have h6 := u_store hfc hkC hkind hlay hi (hty k hk) hn hfit
    exact W.putK hx hb (f := f) ⟨hown, hts _ hlink, ⟨_, _, _, hi⟩, hst⟩ (by rw [q2]; exact h6) q1 q3 (by rw [hsl]; exact k2_hasslot (q4 k hk)) rfl rfl hd fin
  · cases hq.symm.trans hq'
    rw [if_pos hf] at hlay
    have hcf : m.cls = cf := by
      obtain ⟨_, _, c', _, _, _, -, -, hf', -, -, -, hown2, -⟩ := Cond.laysFinal_spec hlay
      have e1 : c' = cf := by have := hi.symm.trans hf'; simp at this; exact this.1.symm
      rw [hdecl] at hown2
      rw [← e1]; exact Option.some.inj (hown.symm.trans hown2)
    have h6 := u_fits hfc hkC hkind (Or.inr hlay) hi (hty k hk) hn hfit
    exact W.putFinK hx hb hown (hts _ hlink) hi hst hcf hinit (by rw [q2]; exact h6) q1 q3 (by rw [hsl]; exact k2_hasslot (q4 k hk)) rfl rfl hd fin
end GH
