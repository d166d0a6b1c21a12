/-! ===== a run that stops where its method throws ===== -/
def gjunk (j : Nat) (h : gH) : gH := (h.1 + j, h.2.1, fun b => if h.1 ≤ b ∧ b < h.1 + j then none else h.2.2.1 b, h.2.2.2.1, h.2.2.2.2)
theorem gRp.junk {D : gD} {cl : List vw_C} {ad : Nat → Nat} {B n0 : Nat} {s : State} {h : gH} {H H1 : Heap} (hA : gAd ad B n0) (hR : gRp D cl ad B n0 s h H) (hz : H.size ≤ H1.size) (ho : ∀ q, q < H.size → H1[q]? = H[q]?) : gRp D cl ad B n0 s (gjunk (H1.size - H.size) h) H1 := by
  obtain ⟨z, hn, g, gf⟩ := hR
  refine ⟨?_, ?_, fun b hb0 hb => ?_, gf.kept (fun b hb => ⟨if_neg (by omega), rfl, fun _ => rfl⟩) (fun b hb => ho _ (by have := hA.1 b hb; omega))⟩
  · show H1.size = B + (h.1 + (H1.size - H.size) - n0)
    omega
  · show n0 ≤ h.1 + _
    omega
  · have hb : b < h.1 + (H1.size - H.size) := hb
    by_cases hbn : b < h.1
    · have hlt : ad b < H.size := by
        rw [hA.hi hb0, z]; omega
      have g1 := (g b hb0 hbn).kept (ho _ hlt)
      unfold gAt at g1 ⊢
      show match (if h.1 ≤ b ∧ b < h.1 + (H1.size - H.size) then none else h.2.2.1 b) with
        | none => True
        | some (.inl t) => H1[ad b]? = some (arrV (D.2 t) (h.2.2.2.1 b) (fun j => gtv ad (h.2.2.2.2 b j)))
        | some (.inr ci) => ∃ r : vw_C, cl[ci]? = some r ∧ t_OB (ad b) (D.1.1 ci) r.2.2 (D.1.2 ci) H1 (fun k => gtv ad (h.2.2.2.2 b k))
      rw [if_neg (by omega)]
      exact g1
    · unfold gAt
      show match (if h.1 ≤ b ∧ b < h.1 + (H1.size - H.size) then none else h.2.2.1 b) with
        | none => True
        | some (.inl t) => H1[ad b]? = some (arrV (D.2 t) (h.2.2.2.1 b) (fun j => gtv ad (h.2.2.2.2 b j)))
        | some (.inr ci) => ∃ r : vw_C, cl[ci]? = some r ∧ t_OB (ad b) (D.1.1 ci) r.2.2 (D.1.2 ci) H1 (fun k => gtv ad (h.2.2.2.2 b k))
      rw [if_pos (by omega)]
      trivial
/-- texts (class, place, text); pairs of classes that can be cast; that can't -/
abbrev gV : Type := List (String × Nat × String) × List (String × String) × List (String × String) × List MethodName
/-- what throwing needs of every state -/
def gUX (B : Nat) (V : gV) (U : State) : Prop :=
  vx_Zq Bundle.tN "UNASSIGNED_STACK" Bundle.steD (fun q => B ≤ q) U U.heap ∧ vx_Zq Bundle.tN "SUPPRESSED_SENTINEL" Bundle.listD (fun q => B ≤ q) U U.heap ∧
  (∀ q ∈ V.1, ∃ sa, vk_R q.1 q.2.1 q.2.2 sa U) ∧ (∀ q ∈ V.2.1, va_Nw (.castable q.1 q.2) U) ∧ (∀ q ∈ V.2.2.1, va_Nc q.1 q.2 U) ∧ ∀ x ∈ V.2.2.2, va_Nw (.declares x) U
theorem gUX.to {B : Nat} {V : gV} {s U : State} (h : gUX B V s) (hW : s.WarmedH U.vm) (hq : ∀ a : Nat, a < s.heap.size → ¬ B ≤ a → U.heap[a]? = s.heap[a]?) : gUX B V U := by
  obtain ⟨h1, h2, h3, h4, h5, h6⟩ := h
  refine ⟨(h1.moved hW.alike).kept hq, (h2.moved hW.alike).kept hq, fun q hm => ?_, fun q hm => (h4 q hm).warmC hW, fun q hm => (h5 q hm).moved hW.alike, fun x hm => (h6 x hm).warmD hW⟩
  obtain ⟨sa, h⟩ := h3 q hm
  exact ⟨sa, h.warm hW⟩
theorem gUX.blind {B : Nat} {V : gV} {U : State} {g : JFrame} {mk : MethodId} {a : Array Value} (h : gUX B V U) : gUX B V (U.calling g mk a) := by
  obtain ⟨h1, h2, h3, h4, h5, h6⟩ := h
  have hv : U.vm.Alike (U.calling g mk a).vm := Vm.Alike.refl U.vm
  refine ⟨h1.moved hv, h2.moved hv, fun q hm => ?_, fun q hm => (h4 q hm).same rfl rfl, fun q hm => (h5 q hm).moved hv, fun x hm => (h6 x hm).same rfl rfl⟩
  obtain ⟨sa, h⟩ := h3 q hm
  exact ⟨sa, h.same rfl⟩
/-- how a throwing run ends: which class, the heap (and some cells more, of which nothing is said) -/
def gXC (D : gD) (cl : List vw_C) (ad : Nat → Nat) (B n0 : Nat) (cls : String) (h : gH) (E : String) (st t : State) : Prop :=
  E = cls ∧ (∃ j, gRp D cl ad B n0 t (gjunk j h) t.heap) ∧ va_F (fun q => B ≤ q) st t
theorem g_metX {l : Launch} (hl : l.stackTraces = false) {P : Nat → Option gMt} {cl : List vw_C} {G : gG} {cn : Nat → Option Nat} {X : gX} {GT : List Cond} {D : gD} {ad : Nat → Nat} {B n : Nat} {V : gV} (hw : gWk l P cl G cn X GT D ad B n) (hA : gAd ad B G.2.2.2.2)
    {d : Nat} {t : gMt} {vs : List Value} {h : gH} {r : gR} {L' : gL} (g : go P G cn n d t 0 (gent vs (gmL t)) [] h = some (r, L')) (hok : gOk0 P cl G X GT t) (hvs : (gsl vs).length ≤ gmL t) (hS0 : r.2.1 = []) (hpl : plainName (gmN t).cls = true)
    {cls text : String} {names : List String} {ik is ic : Nat} (d0 : decode (gmB t) r.1 = .ok (.new ik, 3)) (d3 : decode (gmB t) (r.1 + 3) = .ok (.dup, 1)) (d4 : decode (gmB t) (r.1 + 4) = .ok (.ldc is, 2)) (d6 : decode (gmB t) (r.1 + 6) = .ok (.invokespecial ic, 3)) (d9 : decode (gmB t) (r.1 + 9) = .ok (.athrow, 1))
    (hfit : Bundle.fit cls = true) (hnames : ∀ n ∈ names, Bundle.fit n = true) (hk : Cond.classLink (gmN t).cls ik cls ∈ GT) (hini : Cond.initialized cls ∈ GT) (hstr : ((gmN t).cls, is, text) ∈ V.1)
    (hgw : ∀ w ∈ (vx_atS (gmN t).cls ic cls names).filter goodWord, w ∈ GT) (hbw : ∀ w ∈ (vx_atS (gmN t).cls ic cls names).filter (fun w => !goodWord w), w ∈ V.2.1.map (fun q => Cond.castable q.1 q.2) ++ V.2.2.2.map Cond.declares)
    (hgood : ∀ w ∈ Cond.classLink (gmN t).cls ik cls :: Cond.initialized cls :: vx_atS (gmN t).cls ic cls names, vx_ot w = true) (hdn : names.length + 3 < d) :
    vx_Met l (gmN t) (Cond.code (gmN t) (gmB t) (gmL t) (gmR t) :: GT) (gRm d (r.2.2.1 - h.1 + 1) (r.2.2.2.1 - h.2.1 + 6)) (va_Pc (vs.map (gtv ad)) (fun U => gPc D cl G ad B X h U ∧ gUX B V U)) (fun _ _ _ _ => False) (gXC D cl ad B G.2.2.2.2 cls r.2.2) (r.2.2.1 - h.1 + 1) (r.2.2.2.1 - h.2.1 + 6) (fun q => B ≤ q) := by
  refine vx_ofW (cc := gmB t) (maxL := gmL t) (ret := gmR t) hpl rfl ?_
  intro p e s m args below meth c s₁ B0 hml htab hv
  obtain ⟨rfl, ⟨hU, hR⟩, hV⟩ := hv
  have hts := atoms_spec (ws := Cond.code (gmN t) (gmB t) (gmL t) (gmR t) :: GT) B0.pre
  have htG : ∀ w ∈ GT, w.before (vs.map (gtv ad)).toArray s = true := fun w hw => hts w (List.mem_cons_of_mem _ hw)
  have hS : va_S (fun q => B ≤ q) s.heap s.heap [] := va_S.rf
  have hown := findClass_of_methodNamed B0.named
  rw [lg_entry_eq]
  have k := hw d t 0 (gent vs (gmL t)) [] h r L' g hok p e (headSpec (Cond.code (gmN t) (gmB t) (gmL t) (gmR t) :: GT) (gRm d (r.2.2.1 - h.1 + 1) (r.2.2.2.1 - h.2.1 + 6))).room s m _ below meth c s.heap [] h.1 h.2.1
    (vx_MQ below (fun _ _ _ _ => False) (gXC D cl ad B G.2.2.2.2 cls r.2.2) (vs.map (gtv ad)).toArray s (r.2.2.1 - h.1 + 1) (r.2.2.2.1 - h.2.1 + 6) (fun q => B ≤ q)) _ B0.exec B0.bytes hml htG hown (name_of_methodNamed B0.named B0.method).1 hU (gent_len hvs) (gent_ls hvs) hR hS (Nat.le_refl _) (Nat.le_refl _) (Nat.le_succ _) (Nat.le_add_right _ 6) (Nat.le_refl _) (Nat.le_refl _) (fun H' locs' ls' hsz _ _ hR' hS' => ?_)
  · rw [Nat.sub_self, Nat.sub_self] at k
    exact k
  · rw [hS0]
    obtain ⟨v1, v2, v3, v4, v5, v6⟩ := hV
    obtain ⟨sa, hsa⟩ := v3 _ hstr
    have hat : ∀ w ∈ vx_atS (gmN t).cls ic cls names, w.before (vs.map (gtv ad)).toArray s = true := vx_hat (fun w hw => htG w (hgw w hw)) hbw (fun w hw => by
      rcases List.mem_append.mp hw with hw | hw
      · obtain ⟨q, hq, rfl⟩ := List.mem_map.mp hw
        exact va_Nw.use rfl (v4 q hq)
      · obtain ⟨q, hq, rfl⟩ := List.mem_map.mp hw
        exact va_Nw.use rfl (v6 q hq))
    refine vx_throwS (A := fun q => B ≤ q) B0.exec B0.bytes hl hown hfit hnames (htG _ hk) (htG _ hini) hsa hat hgood v1 v2 hS' (hsz.trans hml.symm) d0 d3 d4 d6 d9 (fun x hx => (htab x hx).elim) hdn ?_ (Nat.le_refl _) (Nat.le_refl _) B0.notSynchronized (fun t9 hal hz ho => ?_) (fun z hz => hS'.2.2 z hz) (Nat.le_refl _) (Nat.le_refl _)
    · show 0 + (13 * (names.length + 1) + 43) ≤ 64 * d
      omega
    · refine ⟨rfl, ⟨_, (hR'.junk hA hz ho).moved hal⟩, Nat.le_trans hS'.1 hz, fun q h1 h2 => ?_⟩
      rw [ho q (Nat.lt_of_lt_of_le h1 hS'.1)]
      exact hS'.2.1 q h1 h2
