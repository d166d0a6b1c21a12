/-! ===== the pure machine, X: every run of it is a run of the machine ===== -/
def gWk (l : Launch) (P : Nat → Option gMt) (cl : List vw_C) (G : gG) (cn : Nat → Option Nat) (X : gX) (GT : List Cond) (D : gD) (ad : Nat → Nat) (B n : Nat) : Prop :=
  ∀ (d : Nat) (t : gMt) (pc : Nat) (L : gL) (S : List Value) (h : gH) (r : gR), go P G cn n d t pc L S h = some r → gOk P cl G X GT t →
  ∀ (p : Program) (e : Env) (R : Room) (s : State) (m : MethodId) (args : Array Value) (below : List Frame) (meth : Method) (c : Code) (H : Heap) (locs : List Loc) (c0 u0 : Nat) (Q : State → Prop) (ls : Array Slot),
  p.tables.exec = Jvm.exec → c.code = gmB t → c.maxLocals = gmL t → (∀ w ∈ GT, w.before args s = true) → s.vm.findClass (gmN t).cls = some m.cls → meth.name = (gmN t).name → gU D cl G ad B X s →
  L.length = gmL t → gLs ad ls L → gRp D cl ad B G.2.2.2.2 s h H → va_S (fun q => B ≤ q) s.heap H locs → c0 ≤ h.1 → u0 ≤ h.2.1 → r.2.2.1 - c0 ≤ R.cells → r.2.2.2.1 - u0 ≤ R.slots → d ≤ R.frames → 64 * d ≤ R.locals →
  (∀ (H' : Heap) (locs' : List Loc) (ls' : Array Slot), gRp D cl ad B G.2.2.2.2 s r.2.2 H' → va_S (fun q => B ≤ q) s.heap H' locs' → W p l e R s m args below meth c H' locs' (r.2.2.1 - c0) (r.2.2.2.1 - u0) Q (F0 m r.1 ls' (r.2.1.map (gtv ad)))) →
  W p l e R s m args below meth c H locs (h.1 - c0) (h.2.1 - u0) Q (F0 m pc ls (S.map (gtv ad)))
def gRm (d mc ms : Nat) : Room := { frames := d, cells := mc, slots := ms, locals := 64 * d }
def gPc (D : gD) (cl : List vw_C) (G : gG) (ad : Nat → Nat) (B : Nat) (X : gX) (h : gH) (U : State) : Prop := gU D cl G ad B X U ∧ gRp D cl ad B G.2.2.2.2 U h U.heap
theorem g_met {l : Launch} {P : Nat → Option gMt} {cl : List vw_C} {G : gG} {cn : Nat → Option Nat} {X : gX} {GT : List Cond} {D : gD} {ad : Nat → Nat} {B n : Nat} (hw : gWk l P cl G cn X GT D ad B n)
    {d : Nat} {t : gMt} {vs : List Value} {h : gH} {r : gR} {v : Option Value} (g : go P G cn n d t 0 (gent vs (gmL t)) [] h = some r) (hok : gOk P cl G X GT t) (hfin : gfin t r.1 r.2.1 = some v) (hvs : (gsl vs).length ≤ gmL t) :
    Met l (gmN t) (Cond.code (gmN t) (gmB t) (gmL t) (gmR t) :: GT) (gRm d (r.2.2.1 - h.1) (r.2.2.2.1 - h.2.1)) (va_Pc (vs.map (gtv ad)) (gPc D cl G ad B X h)) (fun _ => gQ D cl ad B G.2.2.2.2 v r.2.2) (r.2.2.1 - h.1) (r.2.2.2.1 - h.2.1) (fun q => B ≤ q) := by
  have hok2 := hok
  obtain ⟨-, -, ⟨hcode, -, hpl, -⟩, -⟩ := hok2
  refine va_MetF (cc := gmB t) (maxL := gmL t) (ret := gmR t) hpl rfl ?_
  intro p e s m args below meth c s₁ B0 hml hv
  obtain ⟨rfl, hU, hR⟩ := hv
  have hts := atoms_spec (ws := Cond.code (gmN t) (gmB t) (gmL t) (gmR t) :: GT) B0.pre
  have hS : va_S (fun q => B ≤ q) s.heap s.heap [] := va_S.rf
  rw [lg_entry_eq]
  have k := hw d t 0 (gent vs (gmL t)) [] h r g hok p e (headSpec (Cond.code (gmN t) (gmB t) (gmL t) (gmR t) :: GT) (gRm d (r.2.2.1 - h.1) (r.2.2.2.1 - h.2.1))).room s m _ below meth c s.heap [] h.1 h.2.1
    (MQ below (fun _ => gQ D cl ad B G.2.2.2.2 v r.2.2) (vs.map (gtv ad)).toArray s (r.2.2.1 - h.1) (r.2.2.2.1 - h.2.1) (fun q => B ≤ q)) _ B0.exec B0.bytes hml (fun w hw => hts w (List.mem_cons_of_mem _ hw)) (findClass_of_methodNamed B0.named) (name_of_methodNamed B0.named B0.method).1 hU (gent_len hvs) (gent_ls hvs) hR hS (Nat.le_refl _) (Nat.le_refl _) (Nat.le_refl _) (Nat.le_refl _) (Nat.le_refl _) (Nat.le_refl _) (fun H' locs' ls' hR' hS' => ?_)
  · rw [Nat.sub_self, Nat.sub_self] at k
    exact k
  · unfold gfin at hfin
    split at hfin
    · rename_i I n9 hlk
      exact gw_ret hfin B0.exec B0.bytes B0.returns B0.notSynchronized (fun t9 ht hW => ⟨rfl, by rw [ht]; exact hR'.moved hW.alike, hS'.F ht⟩) (fun q hq => hS'.2.2 q hq) (hcode _ _ _ hlk)
    · cases hfin
