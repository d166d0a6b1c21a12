/-! ===== the law's helpers: methods with a table of exceptions ===== -/
/-- how a run ends, one way or another -/
def gQp (D : gD) (cl : List vw_C) (ad : Nat → Nat) (B n0 : Nat) (F : Option Value → gH → Prop) (st : State) (o : Outcome) (t : State) : Prop := ∃ r h, F r h ∧ gQ D cl ad B n0 r h st o t
/-- a start that may throw -/
def gPx (D : gD) (cl : List vw_C) (G : gG) (ad : Nat → Nat) (B : Nat) (X : gX) (V : gV) (h : gH) (U : State) : Prop := gPc D cl G ad B X h U ∧ gUX B V U
theorem g_metW {l : Launch} {P : Nat → Option gMt} {cl : List vw_C} {G : gG} {cn : Nat → Option Nat} {X : gX} {GT : List Cond} {D : gD} {ad : Nat → Nat} {B n : Nat} {V : gV} (hw : gWk l P cl G cn X GT D ad B n)
    {d : Nat} {t : gMt} {vs : List Value} {h : gH} {r : gR} {L' : gL} {v : Option Value} {hh : List (Nat × Nat × Nat × Nat)} (g : go P G cn n d t 0 (gent vs (gmL t)) [] h = some (r, L')) (hok : gOk0 P cl G X GT t) (hpl : plainName (gmN t).cls = true) (hfin : gfin t r.1 r.2.1 = some v) (hvs : (gsl vs).length ≤ gmL t) :
    Met l (gmN t) (Cond.codeWith (gmN t) (gmB t) (gmL t) (gmR t) hh :: GT) (gRm d (r.2.2.1 - h.1) (r.2.2.2.1 - h.2.1)) (va_Pc (vs.map (gtv ad)) (gPx D cl G ad B X V h)) (fun _ => gQp D cl ad B G.2.2.2.2 (fun w h2 => w = v ∧ h2 = r.2.2)) (r.2.2.1 - h.1) (r.2.2.2.1 - h.2.1) (fun q => B ≤ q) := by
  have hok2 := hok
  obtain ⟨-, -, ⟨hcode, -⟩, -⟩ := hok2
  refine va_MetW (cc := gmB t) (maxL := gmL t) (ret := gmR t) (hh := hh) hpl rfl ?_
  intro p e s m args below meth c s₁ B0 hml hv
  obtain ⟨rfl, ⟨hU, hR⟩, hV⟩ := hv
  have hts := atoms_spec (ws := Cond.codeWith (gmN t) (gmB t) (gmL t) (gmR t) hh :: GT) B0.pre
  have hS : va_S (fun q => B ≤ q) s.heap s.heap [] := va_S.rf
  rw [lg_entry_eq]
  have k := hw d t 0 (gent vs (gmL t)) [] h r L' g hok p e (headSpec (Cond.codeWith (gmN t) (gmB t) (gmL t) (gmR t) hh :: GT) (gRm d (r.2.2.1 - h.1) (r.2.2.2.1 - h.2.1))).room s m _ below meth c s.heap [] h.1 h.2.1
    (MQ below (fun _ => gQp D cl ad B G.2.2.2.2 (fun w h2 => w = v ∧ h2 = r.2.2)) (vs.map (gtv ad)).toArray s (r.2.2.1 - h.1) (r.2.2.2.1 - h.2.1) (fun q => B ≤ q)) _ B0.exec B0.bytes hml (fun w hw => hts w (List.mem_cons_of_mem _ hw)) (findClass_of_methodNamed B0.named) (name_of_methodNamed B0.named B0.method).1 hU (gent_len hvs) (gent_ls hvs) hR hS (Nat.le_refl _) (Nat.le_refl _) (Nat.le_refl _) (Nat.le_refl _) (Nat.le_refl _) (Nat.le_refl _) (fun H' locs' ls' _ _ _ hR' hS' => ?_)
  · rw [Nat.sub_self, Nat.sub_self] at k
    exact k
  · unfold gfin at hfin
    split at hfin
    · rename_i I n9 hlk
      exact gw_ret hfin B0.exec B0.bytes B0.returns B0.notSynchronized (fun t9 ht hW => ⟨v, r.2.2, ⟨rfl, rfl⟩, rfl, by rw [ht]; exact hR'.moved hW.alike, hS'.F ht⟩) (fun q hq => hS'.2.2 q hq) (hcode _ _ _ hlk)
    · cases hfin
section GHX
variable {p : Program} {l : Launch} {e : Env} {R : Room} {s : State} {m : MethodId} {args : Array Value} {below : List Frame} {meth : Method} {c : Code} {H : Heap} {locs : List Loc} {cells slots : Nat} {Q : State → Prop}
variable {cc : ByteArray} {pc nL : Nat} {ls : Array Slot} {ad : Nat → Nat}
def gast1 (I : Instr) : Option (Nat × Nat) := match I with
  | .astore_n k => some ((k : Nat), 1)
  | .astore i => some (i, 2)
  | _ => none
/-- the exception is put away -/
theorem gw_asx {I : Instr} {i len q : Nat} (hi : gast1 I = some (i, len)) (hn : i < nL) (hx : p.tables.exec = Jvm.exec) (hb : c.code = cc) (hd : decode cc pc = .ok (I, len)) (hsz : ls.size = nL) (hwf : lv_wf ls)
    (kk : ∀ ls' : Array Slot, gLs ad ls' (List.replicate nL none) → W p l e R s m args below meth c H locs cells slots Q (F0 m (pc + len) ls' [])) : W p l e R s m args below meth c H locs cells slots Q (F0 m pc ls [.ref q]) := by
  have hl : lv_has ls nL [] := ⟨hsz, hwf, fun q hq => by cases hq⟩
  have fin : ∀ ls' : Array Slot, lv_has ls' nL [(i, Value.ref q)] → gLs ad ls' (List.replicate nL none) := fun ls' h => ⟨by rw [List.length_replicate]; exact h.1, h.2.1, fun j v hj => by
    have := List.eq_of_mem_replicate (List.mem_of_getElem? hj)
    cases this⟩
  cases I <;> simp only [gast1] at hi <;> cases hi
  · exact lv_astore hx hb hd hl hn rfl (fun ls' h => kk ls' (fin ls' h))
  · exact lv_astore_n hx hb hd rfl hl hn rfl (fun ls' h => kk ls' (fin ls' h))
end GHX
/-- a helper whose call throws, and that catches it -/
theorem g_helpX {l : Launch} {P : Nat → Option gMt} {cl : List vw_C} {G : gG} {cn : Nat → Option Nat} {X : gX} {GT : List Cond} {D : gD} {ad : Nat → Nat} {B n : Nat} {V : gV} (hw : gWk l P cl G cn X GT D ad B n) (hTb : gTb cl G cn GT) (hP : ∀ y t, P y = some t → gOk P cl G X GT t)
    {d : Nat} {t : gMt} {vs : List Value} {h : gH} {hh : List (Nat × Nat × Nat × Nat)} (hok : gOk0 P cl G X GT t) (hpl : plainName (gmN t).cls = true) (hvs : (gsl vs).length ≤ gmL t)
    {pcI idx : Nat} {S1 : List Value} {L1 : gL} (g1 : go P G cn n (d + 1) t 0 (gent vs (gmL t)) [] h = some ((pcI, S1, h), L1)) (hlk : glk pcI (gmC t) = some (.invokevirtual idx, 3))
    {t' : gMt} {vs' rest : List Value} (hcal : gcal P G.2.2.2.2 t 1 idx S1 h = some (t', vs', rest))
    {E : String} {hx : gH} {mc ms : Nat} (hX : vx_Met l (gmN t') (Cond.code (gmN t') (gmB t') (gmL t') (gmR t') :: GT) (gRm d mc ms) (va_Pc (vs'.map (gtv ad)) (gPx D cl G ad B X V h)) (fun _ _ _ _ => False) (gXC D cl ad B G.2.2.2.2 E hx) mc ms (fun q => B ≤ q))
    {pre suf : List ExceptionTableEntry} {x : ExceptionTableEntry} {nm : String} (hsp : tableOf hh = pre ++ x :: suf) (hpass : ∀ z ∈ pre, covers z pcI = false ∨ (z.catchType ≠ 0 ∧ ∃ nm9 : String, Cond.classLink (gmN t).cls z.catchType nm9 ∈ GT ∧ (E, nm9) ∈ V.2.2.1)) (hcov : covers x pcI = true) (hc0 : x.catchType ≠ 0)
    (hlink : Cond.classLink (gmN t).cls x.catchType nm ∈ GT) (hcast : (E, nm) ∈ V.2.1) {I : Instr} {i len : Nat} (hIh : glk x.handlerPc (gmC t) = some (I, len)) (hia : gast1 I = some (i, len)) (hin : i < gmL t)
    {pce : Nat} {Se : List Value} {L3 : gL} {v : Option Value} (g3 : ∀ hJ : gH, go P G cn n (d + 1) t (x.handlerPc + len) (List.replicate (gmL t) none) [] hJ = some ((pce, Se, hJ), L3)) (hfin : gfin t pce Se = some v) (hmc : mc ≤ hx.1) (hms : ms ≤ hx.2.1) (hlink9 : Cond.methodLink (gmN t).cls idx (gmN t') ∈ GT) :
    Met l (gmN t) (Cond.codeWith (gmN t) (gmB t) (gmL t) (gmR t) hh :: GT) (gRm (d + 1) mc ms) (va_Pc (vs.map (gtv ad)) (gPx D cl G ad B X V h)) (fun _ => gQp D cl ad B G.2.2.2.2 (fun w h2 => w = v ∧ ∃ j, h2 = gjunk j hx)) mc ms (fun q => B ≤ q) := by
  have hok2 := hok
  obtain ⟨-, -, ⟨hcode, -⟩, hcalls, -⟩ := hok2
  refine va_MetW (cc := gmB t) (maxL := gmL t) (ret := gmR t) (hh := hh) hpl rfl ?_
  intro p e s m args below meth c s₁ B0 hml hv
  obtain ⟨rfl, ⟨hU, hR⟩, hV⟩ := hv
  have hts := atoms_spec (ws := Cond.codeWith (gmN t) (gmB t) (gmL t) (gmR t) hh :: GT) B0.pre
  have htG : ∀ w ∈ GT, w.before (vs.map (gtv ad)).toArray s = true := fun w hw => hts w (List.mem_cons_of_mem _ hw)
  have htab := vx_table (x := gmN t) B0 (hts _ List.mem_cons_self)
  have hS : va_S (fun q => B ≤ q) s.heap s.heap [] := va_S.rf
  have hown := findClass_of_methodNamed B0.named
  have hnm := (name_of_methodNamed B0.named B0.method).1
  rw [lg_entry_eq]
  have k := hw (d + 1) t 0 (gent vs (gmL t)) [] h _ L1 g1 hok p e (headSpec (Cond.codeWith (gmN t) (gmB t) (gmL t) (gmR t) hh :: GT) (gRm (d + 1) mc ms)).room s m _ below meth c s.heap [] h.1 h.2.1
    (MQ below (fun _ => gQp D cl ad B G.2.2.2.2 (fun w h2 => w = v ∧ ∃ j, h2 = gjunk j hx)) (vs.map (gtv ad)).toArray s mc ms (fun q => B ≤ q)) _ B0.exec B0.bytes hml htG hown hnm hU (gent_len hvs) (gent_ls hvs) hR hS (Nat.le_refl _) (Nat.le_refl _) (by show h.1 - h.1 ≤ mc; omega) (by show h.2.1 - h.2.1 ≤ ms; omega) (Nat.le_refl _) (Nat.le_refl _) (fun H' locs' ls' hsz hls' hL' hR' hS' => ?_)
  · rw [Nat.sub_self, Nat.sub_self] at k
    exact k
  · show W p l e _ s m _ below meth c H' locs' (h.1 - h.1) (h.2.1 - h.2.1) _ (F0 m pcI ls' (S1.map (gtv ad)))
    rw [Nat.sub_self, Nat.sub_self]
    have hR' : gRp D cl ad B G.2.2.2.2 s h H' := hR'
    -- the call
    unfold gcal at hcal
    split at hcal
    · rename_i k' y hTy
      split at hcal
      · rename_i hkk
        subst hkk
        split at hcal
        · rename_i t9 hPy
          split at hcal
          · rename_i vs9 rest9 hargs
            split at hcal
            · rename_i hvs9
              cases hcal
              obtain ⟨hvl, hrecv⟩ := hvs9
              obtain ⟨hok', hcd⟩ := hP y t' hPy
              obtain ⟨-, -, hk1, -⟩ := hcalls idx 1 y t' hTy (by decide) hPy
              obtain ⟨hv1, hv2, q, hq, hqn⟩ := hk1 rfl
              obtain ⟨-, -, ⟨-, hpl', hini, hdsc, hL40⟩, -⟩ := hok'
              have hgood : GoodIn GT (Cond.code (gmN t') (gmB t') (gmL t') (gmR t') :: GT) := by
                intro w hw
                have hw2 : w ∈ GT := by
                  rcases List.mem_cons.mp hw with rfl | hw
                  · exact hcd
                  · exact hw
                exact ⟨hw2, good_of_word (hTb.2.2.2 w hw2)⟩
              have hroom : (gRm d mc ms).frames + 1 ≤ (gRm (d + 1) mc ms).frames ∧ 8 + (gmL t' + 11) + (gRm d mc ms).locals ≤ (gRm (d + 1) mc ms).locals := by
                refine ⟨Nat.le_refl _, ?_⟩
                show 8 + (gmL t' + 11) + 64 * d ≤ 64 * (d + 1)
                have hL40 : gmL t' ≤ 40 := hL40
                omega
              have hfx : CallFix p m c (gmB t) (gmL t) s (vs.map (gtv ad)).toArray GT (gmN t).cls := ⟨B0.exec, B0.bytes, hml, hown, htG⟩
              have hblind : FrameBlind (va_Pc (vs'.map (gtv ad)) (gPx D cl G ad B X V h)) := fun a U g9 mk q => ⟨q.1, ⟨q.2.1.1.blind, q.2.1.2.moved (Vm.Alike.refl U.vm)⟩, q.2.2.blind⟩
              have hpre : ∀ U : State, U.heap = H' → s.WarmedH U.vm → va_Pc (vs'.map (gtv ad)) (gPx D cl G ad B X V h) (vs'.map (gtv ad)).toArray U := fun U hUH hW =>
                ⟨rfl, ⟨hU.to hW (fun a ha hBa => by rw [hUH]; exact hS'.2.1 a ha hBa), by rw [hUH]; exact hR'.moved hW.alike⟩, hV.to hW (fun a ha hBa => by rw [hUH]; exact hS'.2.1 a ha hBa)⟩
              obtain ⟨b, As, rfl, rfl, hAs, hsm⟩ := gargs_1 (by decide) hargs
              unfold grecv at hrecv
              rw [if_pos rfl] at hrecv
              simp only [Bool.and_eq_true, decide_eq_true_eq] at hrecv
              obtain ⟨⟨hb0, hb1⟩, hbt⟩ := hrecv
              have hcellB : ∃ cellB : Cell, H'[ad b]? = some cellB ∧ cellB.vm.isStatics = false ∧ s.vm.findClass (gmN t').cls = some cellB.cls := by
                have hat := hR'.2.2.1 b hb0 hb1
                unfold gAt at hat
                rw [hbt] at hat
                obtain ⟨r9, hr9, cell, g1, g2, g3, -⟩ := hat
                refine ⟨cell, g1, by rw [g3]; rfl, ?_⟩
                rw [g2, ← hqn]
                exact (hU.1.1 _ q hq).2.1
              rw [show (As.reverse ++ Value.ref b :: rest).map (gtv ad) = (As.map (gtv ad)).reverse ++ .ref (ad b) :: rest.map (gtv ad) by rw [List.map_append, List.map_reverse]; rfl]
              have hrun := vx_runV (R := gRm (d + 1) mc ms) (e := e) (below := below) (meth := meth) (H := H') (locs := locs') (cells := 0) (slots := 0) (g := F0 m pcI ls' ((As.map (gtv ad)).reverse ++ .ref (ad b) :: rest.map (gtv ad))) (rest := rest.map (gtv ad)) hfx hX ⟨callB_of (gmA t') htG hgood rfl rfl rfl (htG _ hini) (htG _ hlink9) hdsc hroom, htG _ hv1, htG _ hv2⟩ ⟨hblind, hcellB, hpre⟩ rfl (by rw [List.length_map]; exact hAs) hsz rfl (lv_room (by rw [gsum_tv]; exact hsm)) (hcode _ _ _ hlk) ⟨by show 0 + mc ≤ mc; omega, by show 0 + ms ≤ ms; omega⟩
              intro T hT XS
              rcases hrun T hT XS with ⟨v9, st0, t9, T', L9, -, -, -, -, -, hF, -⟩ | ⟨q9, st₀, t9, T', Lx, E9, ce, h0, X', hL9, e1, e2, ⟨rfl, ⟨j, hRj⟩, hF⟩, hce, hcv, hcl, hsteps⟩
              · exact hF.elim
              · have hz : H'.size ≤ T'.heap.size ∧ (∀ q : Nat, q < H'.size → ¬ B ≤ q → T'.heap[q]? = H'[q]?) ∧ va_S (fun q => B ≤ q) s.heap T'.heap (locs' ++ Lx) := vx_keep h0 e1 hS' (fun q _ h => h) (fun q h => h) hL9 hF
                have hva : s.vm.Alike t9.vm := by rw [← e2]; exact X'.warmed.alike
                have hRj2 : gRp D cl ad B G.2.2.2.2 s (gjunk j hx) T'.heap := by rw [e1]; exact hRj.moved hva.symm
                have kk : W p l e (gRm (d + 1) mc ms) s m (vs.map (gtv ad)).toArray below meth c T'.heap (locs' ++ Lx) (0 + mc) (0 + ms) (MQ below (fun _ => gQp D cl ad B G.2.2.2.2 (fun w h2 => w = v ∧ ∃ j, h2 = gjunk j hx)) (vs.map (gtv ad)).toArray s mc ms (fun q => B ≤ q)) (F0 m x.handlerPc ls' [.ref q9]) := by
                  rw [Nat.zero_add, Nat.zero_add]
                  refine gw_asx (ad := ad) hia hin B0.exec B0.bytes (hcode _ _ _ hIh) hsz hls'.2.1 (fun ls2 hls2 => ?_)
                  have k2 := hw (d + 1) t (x.handlerPc + len) (List.replicate (gmL t) none) [] (gjunk j hx) _ L3 (g3 _) hok p e (gRm (d + 1) mc ms) s m _ below meth c T'.heap (locs' ++ Lx) ((gjunk j hx).1 - mc) ((gjunk j hx).2.1 - ms)
                    (MQ below (fun _ => gQp D cl ad B G.2.2.2.2 (fun w h2 => w = v ∧ ∃ j, h2 = gjunk j hx)) (vs.map (gtv ad)).toArray s mc ms (fun q => B ≤ q)) ls2 B0.exec B0.bytes hml htG hown hnm hU List.length_replicate hls2 hRj2 hz.2.2 (Nat.sub_le _ _) (Nat.sub_le _ _) (by show (gjunk j hx).1 - ((gjunk j hx).1 - mc) ≤ mc; omega) (by show (gjunk j hx).2.1 - ((gjunk j hx).2.1 - ms) ≤ ms; omega) (Nat.le_refl _) (Nat.le_refl _) (fun H2 locs2 ls3 _ _ _ hR2 hS2 => ?_)
                  · have e8 : (gjunk j hx).1 - ((gjunk j hx).1 - mc) = mc := by show hx.1 + j - (hx.1 + j - mc) = mc; omega
                    have e9 : (gjunk j hx).2.1 - ((gjunk j hx).2.1 - ms) = ms := by show hx.2.1 - (hx.2.1 - ms) = ms; omega
                    rw [e8, e9] at k2
                    exact k2
                  · have e8 : (gjunk j hx).1 - ((gjunk j hx).1 - mc) = mc := by show hx.1 + j - (hx.1 + j - mc) = mc; omega
                    have e9 : (gjunk j hx).2.1 - ((gjunk j hx).2.1 - ms) = ms := by show hx.2.1 - (hx.2.1 - ms) = ms; omega
                    show W p l e _ s m _ below meth c H2 locs2 ((gjunk j hx).1 - ((gjunk j hx).1 - mc)) ((gjunk j hx).2.1 - ((gjunk j hx).2.1 - ms)) _ (F0 m pce ls3 (Se.map (gtv ad)))
                    rw [e8, e9]
                    have hfin2 := hfin
                    unfold gfin at hfin2
                    split at hfin2
                    · rename_i I9 n9 hlk8
                      exact gw_ret hfin2 B0.exec B0.bytes B0.returns B0.notSynchronized (fun t8 ht hW => ⟨v, gjunk j hx, ⟨rfl, j, rfl⟩, rfl, by rw [ht]; exact gRp.moved hW.alike hR2, hS2.F ht⟩) (fun q hq => hS2.2.2 q hq) (hcode _ _ _ hlk8)
                    · cases hfin2
                obtain ⟨t2, a1, b1⟩ := gx_catch (E := E9) (name := nm) hown pre x suf (htab.trans hsp) (fun z hz9 => (hpass z hz9).imp id (fun ⟨a1, nm9, a2, a3⟩ => ⟨a1, nm9, htG _ a2, hV.2.2.2.2.1 _ a3⟩)) hcov hc0 (htG _ hlink) (va_Nw.use rfl (hV.2.2.2.1 _ hcast)) (by rw [e1]; exact hce) hcv hcl kk T' rfl X'
                exact ⟨t2, hsteps.trans a1, b1⟩
            · cases hcal
          · cases hcal
        · cases hcal
      · cases hcal
    · cases hcal
section GCW
variable {p : Program} {l : Launch} {e : Env} {R : Room} {s : State} {m : MethodId} {args : Array Value} {below : List Frame} {meth : Method} {c : Code} {H : Heap} {locs : List Loc} {cells slots : Nat} {Q : State → Prop}
/-- a call of a helper -/
theorem g_callW {P : Nat → Option gMt} {cl : List vw_C} {G : gG} {cn : Nat → Option Nat} {X : gX} {GT : List Cond} {D : gD} {ad : Nat → Nat} {B : Nat} {V : gV} (hTb : gTb cl G cn GT)
    {t th : gMt} {hh : List (Nat × Nat × Nat × Nat)} {pc idx : Nat} (hok : gOk0 P cl G X GT t) (hlk : glk pc (gmC t) = some (.invokestatic idx, 3)) (hcw : Cond.codeWith (gmN th) (gmB th) (gmL th) (gmR th) hh ∈ GT) (hml9 : Cond.methodLink (gmN t).cls idx (gmN th) ∈ GT) (hst : Cond.static (gmN th) ∈ GT) (hini : Cond.initialized (gmN th).cls ∈ GT)
    (hdsc : (gmN th).cls ≠ "java/lang/invoke/MethodHandle" ∧ (gmN th).cls ≠ "java/lang/invoke/VarHandle" ∧ (parseMethodDescriptor (gmN th).desc).map (fun d => d.parameters.length) = some (gmA th)) (hL40 : gmL th ≤ 40)
    {vs rest : List Value} (hlen : vs.length = gmA th) (hsm : gsum rest ≤ 8) {d mc ms : Nat} {h : gH} {F : Option Value → gH → Prop}
    (hM : Met l (gmN th) (Cond.codeWith (gmN th) (gmB th) (gmL th) (gmR th) hh :: GT) (gRm d mc ms) (va_Pc (vs.map (gtv ad)) (gPx D cl G ad B X V h)) (fun _ => gQp D cl ad B G.2.2.2.2 F) mc ms (fun q => B ≤ q))
    (hx : p.tables.exec = Jvm.exec) (hb : c.code = gmB t) (hml : c.maxLocals = gmL t) (hts : ∀ w ∈ GT, w.before args s = true) (hown : s.vm.findClass (gmN t).cls = some m.cls) (hU : gU D cl G ad B X s) (hV : gUX B V s)
    (hfr : d + 1 ≤ R.frames) (hlo : 64 * (d + 1) ≤ R.locals) (hfit : cells + mc ≤ R.cells ∧ slots + ms ≤ R.slots) {ls : Array Slot} (hsz : ls.size = gmL t) (hR : gRp D cl ad B G.2.2.2.2 s h H) (hS : va_S (fun q => B ≤ q) s.heap H locs)
    (kk : ∀ (w : Option Value) (h2 : gH) (H1 : Heap) (locs1 : List Loc), F w h2 → gRp D cl ad B G.2.2.2.2 s h2 H1 → va_S (fun q => B ≤ q) s.heap H1 locs1 → W p l e R s m args below meth c H1 locs1 (cells + mc) (slots + ms) Q (F0 m (pc + 3) ls ((w.toList ++ rest).map (gtv ad)))) :
    W p l e R s m args below meth c H locs cells slots Q (F0 m pc ls ((vs.reverse ++ rest).map (gtv ad))) := by
  obtain ⟨-, -, ⟨hcode, -⟩, -⟩ := hok
  have hgood : GoodIn GT (va_wsS (gmN t).cls idx (gmN th) (Cond.codeWith (gmN th) (gmB th) (gmL th) (gmR th) hh :: GT)) := by
    intro w hw
    have hw2 : w ∈ GT := by
      unfold va_wsS at hw
      simp only [List.cons_append, List.nil_append, List.mem_cons] at hw
      rcases hw with rfl | rfl | rfl | rfl | hw
      · exact hml9
      · exact hst
      · exact hini
      · exact hcw
      · exact hw
    exact ⟨hw2, good_of_word (hTb.2.2.2 w hw2)⟩
  have hroom : (gRm d mc ms).frames + 1 ≤ R.frames ∧ 8 + (gmL th + 11) + (gRm d mc ms).locals ≤ R.locals := by
    refine ⟨hfr, ?_⟩
    show 8 + (gmL th + 11) + 64 * d ≤ R.locals
    omega
  have hfx : CallFix p m c (gmB t) (gmL t) s args GT (gmN t).cls := ⟨hx, hb, hml, hown, hts⟩
  have hblind : FrameBlind (va_Pc (vs.map (gtv ad)) (gPx D cl G ad B X V h)) := fun a U g9 mk q => ⟨q.1, ⟨q.2.1.1.blind, q.2.1.2.moved (Vm.Alike.refl U.vm)⟩, q.2.2.blind⟩
  have hpre : ∀ U : State, U.heap = H → s.WarmedH U.vm → va_Pc (vs.map (gtv ad)) (gPx D cl G ad B X V h) (vs.map (gtv ad)).toArray U := fun U hUH hW =>
    ⟨rfl, ⟨hU.to hW (fun a ha hBa => by rw [hUH]; exact hS.2.1 a ha hBa), by rw [hUH]; exact hR.moved hW.alike⟩, hV.to hW (fun a ha hBa => by rw [hUH]; exact hS.2.1 a ha hBa)⟩
  rw [show (vs.reverse ++ rest).map (gtv ad) = (vs.map (gtv ad)).reverse ++ rest.map (gtv ad) by rw [List.map_append, List.map_reverse]]
  have hrun := vx_runSW (e := e) (R := R) (below := below) (meth := meth) (H := H) (locs := locs) (cells := cells) (slots := slots) (g := F0 m pc ls ((vs.map (gtv ad)).reverse ++ rest.map (gtv ad))) (rest := rest.map (gtv ad)) hfx hM (vx_cwSW (gmA th) hts hgood rfl rfl rfl hdsc hroom) ⟨hblind, hpre⟩ rfl (by rw [List.length_map]; exact hlen) hsz rfl (lv_room (by rw [gsum_tv]; exact hsm)) (hcode _ _ _ hlk) hfit
  intro T hT XS
  obtain ⟨v, st₀, t9, T', L9, h0, X', hL9, e1, e2, ⟨w, h2, hF, hv, hp, hz, hk⟩, st⟩ := hrun T hT XS
  cases hv
  rw [h0] at hz hk
  have hva : s.vm.Alike t9.vm := by rw [← e2]; exact X'.warmed.alike
  obtain ⟨t2, a1, b1⟩ := kk w h2 T'.heap (locs ++ L9) hF (by rw [e1]; exact hp.moved hva.symm)
    ⟨Nat.le_trans hS.1 (by rw [e1]; exact hz), fun q h1 h2 => by rw [e1, hk q (Nat.lt_of_lt_of_le h1 hS.1) h2]; exact hS.2.1 q h1 h2, fun q hq => by
      rcases List.mem_append.mp hq with h | h
      · exact hS.2.2 q h
      · exact hL9 q h⟩ T' rfl X'
  refine ⟨t2, st t2 ?_, b1⟩
  have e3 : (w.map (gtv ad)).toList ++ rest.map (gtv ad) = (w.toList ++ rest).map (gtv ad) := by cases w <;> rfl
  rw [e3]
  exact a1
end GCW
