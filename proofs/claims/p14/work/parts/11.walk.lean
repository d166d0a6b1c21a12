/-! ===== the pure machine, IX: its runs are the machine's ===== -/
/-- statics (cell, class, name, type); links of nest mates: fields, methods; classes with arrays over them -/
abbrev gX : Type := List (Nat × String × String × String) × List (String × Nat × String × String × String × String) × List (String × Nat × MethodName × String) × List String
/-- what holds of every state, whatever method runs -/
def gU (D : gD) (cl : List vw_C) (G : gG) (ad : Nat → Nat) (B : Nat) (X : gX) (U : State) : Prop :=
  gKn D cl G.1 U ∧ (∀ q ∈ X.1, va_Z q.2.1 q.2.2.1 q.2.2.2 (.ref (ad q.1)) (fun z => B ≤ z) U U.heap) ∧ (∀ q ∈ X.2.1, va_Nw (.fieldLinkNest q.1 q.2.1 q.2.2.1 q.2.2.2.1 q.2.2.2.2.1 q.2.2.2.2.2) U) ∧
  (∀ q ∈ X.2.2.1, va_Nw (.methodLinkNest q.1 q.2.1 q.2.2.1 q.2.2.2) U) ∧ ∀ C ∈ X.2.2.2, va_AO C U
theorem gU.to {D : gD} {cl : List vw_C} {G : gG} {ad : Nat → Nat} {B : Nat} {X : gX} {s U : State} (h : gU D cl G ad B X s) (hW : s.WarmedH U.vm) (hq : ∀ a : Nat, a < s.heap.size → ¬ B ≤ a → U.heap[a]? = s.heap[a]?) : gU D cl G ad B X U := by
  obtain ⟨h1, h2, h3, h4, h5⟩ := h
  exact ⟨h1.moved hW.alike, fun q hm => ((h2 q hm).moved hW.alike).kept hq, fun q hm => (h3 q hm).warmF hW, fun q hm => (h4 q hm).warmM hW, fun C hm => (h5 C hm).moved hW.alike⟩
theorem gU.blind {D : gD} {cl : List vw_C} {G : gG} {ad : Nat → Nat} {B : Nat} {X : gX} {U : State} {g : JFrame} {mk : MethodId} {a : Array Value} (h : gU D cl G ad B X U) : gU D cl G ad B X (U.calling g mk a) := by
  obtain ⟨h1, h2, h3, h4, h5⟩ := h
  have hv : U.vm.Alike (U.calling g mk a).vm := Vm.Alike.refl U.vm
  exact ⟨h1.moved hv, fun q hm => (h2 q hm).moved hv, fun q hm => (h3 q hm).same rfl rfl, fun q hm => (h4 q hm).same rfl rfl, fun C hm => (h5 C hm).moved hv⟩
/-- a method's tables are right -/
def gOk0 (P : Nat → Option gMt) (cl : List vw_C) (G : gG) (X : gX) (GT : List Cond) (t : gMt) : Prop :=
  (gFl cl GT (gmN t).cls (gmK t).1 ∧ (∀ idx v, (gmK t).2.1 idx = some v → Cond.constant (gmN t).cls idx v ∈ GT) ∧ (∀ idx v, (gmK t).2.2.1 idx = some v → Cond.constantLong (gmN t).cls idx v ∈ GT) ∧
    (∀ idx a, (gmK t).2.2.2.1 idx = some a → ∃ C nm d, (a, C, nm, d) ∈ X.1 ∧ (Cond.fieldLink (gmN t).cls idx C nm d ∈ GT ∨ ∃ host, ((gmN t).cls, idx, C, nm, d, host) ∈ X.2.1)) ∧
    (∀ idx ci, (gmK t).2.2.2.2 idx = some (.inl ci) → ∃ q : vw_C, cl[ci]? = some q ∧ Cond.classLink (gmN t).cls idx q.1 ∈ GT ∧ Cond.instantiable q.1 q.2.2 ∈ GT ∧ Cond.initialized q.1 ∈ GT) ∧
    (∀ idx u, (gmK t).2.2.2.2 (idx + 100000) = some (.inr u) → ∃ C, G.1[u]? = some (.object C) ∧ Cond.classLink (gmN t).cls idx C ∈ GT ∧ C ∈ X.2.2.2)) ∧
  (∀ ci, gmI t = some ci → (gmN t).name = "<init>" ∧ ∃ q : vw_C, cl[ci]? = some q ∧ ∀ k, k < q.2.2 → (q.2.1 k).1 = (gmN t).cls) ∧
  ((∀ pc I n, glk pc (gmC t) = some (I, n) → decode (gmB t) pc = .ok (I, n)) ∧ plainFor (gmN t) = true ∧ Cond.initialized (gmN t).cls ∈ GT ∧
    ((gmN t).cls ≠ "java/lang/invoke/MethodHandle" ∧ (gmN t).cls ≠ "java/lang/invoke/VarHandle" ∧ (parseMethodDescriptor (gmN t).desc).map (fun d => d.parameters.length) = some (gmA t)) ∧ gmL t ≤ 40) ∧
  (∀ idx k y t', gmT t idx = some (k, y) → k < 3 → P y = some t' → (Cond.methodLink (gmN t).cls idx (gmN t') ∈ GT ∨ ∃ host, ((gmN t).cls, idx, gmN t', host) ∈ X.2.2.1) ∧ (k = 0 → Cond.static (gmN t') ∈ GT) ∧
    (k = 1 → Cond.instanceMethod (gmN t') ∈ GT ∧ Cond.selects (gmN t').cls (gmN t') (gmN t') ∈ GT ∧ ∃ q : vw_C, cl[gmO t']? = some q ∧ q.1 = (gmN t').cls) ∧ (k = 2 → (gmN t').name = "<init>" ∧ Cond.instanceMethod (gmN t') ∈ GT ∧ gmR t' = none)) ∧
  (∀ idx, gmT t idx = some (3, 0) → Cond.methodLink (gmN t).cls idx arraycopyName ∈ GT ∧ Cond.native arraycopyName ∈ GT ∧ Cond.static arraycopyName ∈ GT ∧ Cond.initialized "java/lang/System" ∈ GT) ∧
  (∀ idx, gmT t idx = some (4, 0) → Cond.methodLink (gmN t).cls idx objectInit ∈ GT ∧ Cond.instanceMethod objectInit ∈ GT ∧ Cond.code objectInit ⟨#[0xb1]⟩ 1 none ∈ GT)
/-- and its code has no table of exceptions -/
def gOk (P : Nat → Option gMt) (cl : List vw_C) (G : gG) (X : gX) (GT : List Cond) (t : gMt) : Prop := gOk0 P cl G X GT t ∧ Cond.code (gmN t) (gmB t) (gmL t) (gmR t) ∈ GT
/-- the tables that all methods share are right -/
def gTb (cl : List vw_C) (G : gG) (cn : Nat → Option Nat) (GT : List Cond) : Prop :=
  gCl cl G.2.1 GT ∧
  (G.1[0]? = some .int ∧ G.1[1]? = some .byte ∧ G.1[2]? = some .long ∧ G.1[3]? = some .boolean ∧ Cond.arrayClass .int ∈ GT ∧ Cond.arrayClass .byte ∈ GT ∧ Cond.arrayClass .long ∈ GT ∧ Cond.arrayClass .boolean ∈ GT) ∧
  ((∀ ci (q : vw_C), cl[ci]? = some q → G.2.2.2.1 ci = q.2.2 ∧ ∀ k, G.2.2.1 ci k = (q.2.1 k).2.2.2) ∧ (∀ t ci, cn t = some ci → ∃ q : vw_C, cl[ci]? = some q ∧ G.1[t]? = some (.object q.1))) ∧
  ∀ w ∈ GT, goodWord w = true
theorem gcx_of {P : Nat → Option gMt} {D : gD} {cl : List vw_C} {G : gG} {cn : Nat → Option Nat} {ad : Nat → Nat} {B : Nat} {X : gX} {GT : List Cond} {t : gMt} {p : Program} {s : State} {m : MethodId} {args : Array Value} {meth : Method} {c : Code}
    (hTb : gTb cl G cn GT) (hok : gOk0 P cl G X GT t) (hA : gAd ad B G.2.2.2.2) (hU : gU D cl G ad B X s) (hx : p.tables.exec = Jvm.exec) (hb : c.code = gmB t) (hts : ∀ w ∈ GT, w.before args s = true) (hown : s.vm.findClass (gmN t).cls = some m.cls) (hnm : meth.name = (gmN t).name) :
    gCx D cl G cn ad B GT (gmN t).cls (gmK t) (gmI t) p s m args meth c (gmB t) := by
  obtain ⟨⟨k1, k2, k3, k4, k5, k6⟩, i1, -⟩ := hok
  obtain ⟨u1, u2, u3, u4, u5⟩ := hU
  obtain ⟨b1, b2, ⟨b3, b4⟩, -⟩ := hTb
  refine ⟨⟨hx, hb, hts, hown⟩, ⟨u1, b1, hA⟩, ⟨k1, k2, k3, fun idx a ha => ?_, k5, fun idx u hu => ?_⟩, b2, b3, b4, fun ci hci => ?_⟩
  · obtain ⟨C, nm, d, hm, hl⟩ := k4 idx a ha
    refine ⟨C, nm, d, u2 _ hm, ?_⟩
    rcases hl with hl | ⟨host, hl⟩
    · exact Or.inl hl
    · exact Or.inr ⟨host, u3 _ hl⟩
  · obtain ⟨C, h1, h2, h3⟩ := k6 idx u hu
    exact ⟨C, h1, h2, u5 C h3⟩
  · obtain ⟨h1, h2⟩ := i1 ci hci
    exact ⟨hnm.trans h1, h2⟩
/-- how a run ends -/
def gQ (D : gD) (cl : List vw_C) (ad : Nat → Nat) (B n0 : Nat) (r : Option Value) (h : gH) (st : State) (o : Outcome) (t : State) : Prop :=
  o = .returned (r.map (gtv ad)) ∧ gRp D cl ad B n0 t h t.heap ∧ va_F (fun q => B ≤ q) st t
section GW
variable {p : Program} {l : Launch} {e : Env} {R : Room} {s : State} {m : MethodId} {args : Array Value} {below : List Frame} {meth : Method} {c : Code} {H : Heap} {locs : List Loc} {cells slots : Nat} {Q : State → Prop}
variable {cc : ByteArray} {pc : Nat} {ls : Array Slot} {S : List Value} {ad : Nat → Nat}
theorem gw_ret {rt : Option FieldType} {I : Instr} {n : Nat} {r : Option Value} {Qc : Array Value → State → Outcome → State → Prop} {free : Addr → Prop} (g : gret rt I n S = some r) (hx : p.tables.exec = Jvm.exec) (hb : c.code = cc) (hr : meth.sig.returnType = rt) (hlocks : meth.locks = false)
    (hq : ∀ t : State, t.heap = H → s.WarmedH t.vm → Qc args s (.returned (r.map (gtv ad))) t) (hf : ∀ q ∈ locs, free q.base) (hd : decode cc pc = .ok (I, n)) :
    W p l e R s m args below meth c H locs cells slots (MQ below Qc args s cells slots free) (F0 m pc ls (S.map (gtv ad))) := by
  unfold gret at g
  split at g
  · split at g
    · rename_i v
      split at g
      · split at g
        · rename_i hn
          subst hn
          cases g
          exact W.iret hx hb hr hq hf hd hlocks
        · cases g
      · split at g
        · rename_i hn
          obtain ⟨rfl, hv⟩ := hn
          cases g
          exact W.zret hx hb hr (by rcases hv with rfl | rfl <;> rfl) hq hf hd hlocks
        · cases g
      · split at g
        · rename_i hn
          obtain ⟨rfl, hv⟩ := hn
          cases g
          exact W.zret hx hb hr (by rw [narrow_byte, hv]) hq hf hd hlocks
        · cases g
      · cases g
    · cases g
  · split at g
    · rename_i v
      split at g
      · rename_i hn
        obtain ⟨rfl, rfl⟩ := hn
        cases g
        exact W.lret hx hb hr hq hf hd hlocks
      · cases g
    · cases g
  · split at g
    · rename_i a
      split at g
      · split at g
        · rename_i hn
          subst hn
          cases g
          exact W.aret hx hb hr (Or.inl ⟨_, rfl⟩) (Or.inr ⟨_, rfl⟩) hq hf hd hlocks
        · cases g
      · split at g
        · rename_i hn
          subst hn
          cases g
          exact W.aret hx hb hr (Or.inr ⟨_, rfl⟩) (Or.inr ⟨_, rfl⟩) hq hf hd hlocks
        · cases g
      · cases g
    · cases g
  · split at g
    · rename_i hn
      obtain ⟨rfl, rfl, rfl⟩ := hn
      cases g
      exact W.vret hx hb hr hq hf hd hlocks
    · cases g
  · cases g
/-- behind a call -/
theorem gw_after {D : gD} {cl : List vw_C} {B n0 : Nat} {st0 rest : List Value} {r : Option Value} {hx : gH} {mc ms : Nat} (hr : va_Run p l e R s m args below meth c H locs cells slots mc ms (F0 m pc ls st0) rest (gQ D cl ad B n0 r hx) (fun q => B ≤ q)) (hS : va_S (fun q => B ≤ q) s.heap H locs)
    (kk : ∀ (H1 : Heap) (locs1 : List Loc), gRp D cl ad B n0 s hx H1 → va_S (fun q => B ≤ q) s.heap H1 locs1 → W p l e R s m args below meth c H1 locs1 (cells + mc) (slots + ms) Q (F0 m (pc + 3) ls ((r.map (gtv ad)).toList ++ rest))) :
    W p l e R s m args below meth c H locs cells slots Q (F0 m pc ls st0) := by
  intro T hT X
  obtain ⟨v, st₀, t, T', L, h0, X', hL, e1, e2, ⟨hv, hp, hz, hk⟩, st⟩ := hr T hT X
  cases hv
  rw [h0] at hz hk
  have hva : s.vm.Alike t.vm := by rw [← e2]; exact X'.warmed.alike
  obtain ⟨t2, a1, b1⟩ := kk T'.heap (locs ++ L) (by rw [e1]; exact hp.moved hva.symm)
    ⟨Nat.le_trans hS.1 (by rw [e1]; exact hz), fun q h1 h2 => by rw [e1, hk q (Nat.lt_of_lt_of_le h1 hS.1) h2]; exact hS.2.1 q h1 h2, fun q hq => by
      rcases List.mem_append.mp hq with h | h
      · exact hS.2.2 q h
      · exact hL q h⟩ T' rfl X'
  exact ⟨t2, st t2 a1, b1⟩
end GW
