/-! ===== the pure machine, X: every run of it is a run of the machine ===== -/
def gWk (l : Launch) (P : Nat → Option gMt) (cl : List vw_C) (G : gG) (cn : Nat → Option Nat) (X : gX) (GT : List Cond) (D : gD) (ad : Nat → Nat) (B n : Nat) : Prop :=
  ∀ (d : Nat) (t : gMt) (pc : Nat) (L : gL) (S : List Value) (h : gH) (r : gR) (L' : gL), go P G cn n d t pc L S h = some (r, L') → gOk0 P cl G X GT t →
  ∀ (p : Program) (e : Env) (R : Room) (s : State) (m : MethodId) (args : Array Value) (below : List Frame) (meth : Method) (c : Code) (H : Heap) (locs : List Loc) (c0 u0 : Nat) (Q : State → Prop) (ls : Array Slot),
  p.tables.exec = Jvm.exec → c.code = gmB t → c.maxLocals = gmL t → (∀ w ∈ GT, w.before args s = true) → s.vm.findClass (gmN t).cls = some m.cls → meth.name = (gmN t).name → gU D cl G ad B X s →
  L.length = gmL t → gLs ad ls L → gRp D cl ad B G.2.2.2.2 s h H → va_S (fun q => B ≤ q) s.heap H locs → c0 ≤ h.1 → u0 ≤ h.2.1 → r.2.2.1 - c0 ≤ R.cells → r.2.2.2.1 - u0 ≤ R.slots → d ≤ R.frames → 64 * d ≤ R.locals →
  (∀ (H' : Heap) (locs' : List Loc) (ls' : Array Slot), ls'.size = gmL t → gLs ad ls' L' → L'.length = gmL t → gRp D cl ad B G.2.2.2.2 s r.2.2 H' → va_S (fun q => B ≤ q) s.heap H' locs' → W p l e R s m args below meth c H' locs' (r.2.2.1 - c0) (r.2.2.2.1 - u0) Q (F0 m r.1 ls' (r.2.1.map (gtv ad)))) →
  W p l e R s m args below meth c H locs (h.1 - c0) (h.2.1 - u0) Q (F0 m pc ls (S.map (gtv ad)))
def gRm (d mc ms : Nat) : Room := { frames := d, cells := mc, slots := ms, locals := 64 * d }
def gPc (D : gD) (cl : List vw_C) (G : gG) (ad : Nat → Nat) (B : Nat) (X : gX) (h : gH) (U : State) : Prop := gU D cl G ad B X U ∧ gRp D cl ad B G.2.2.2.2 U h U.heap
theorem g_met {l : Launch} {P : Nat → Option gMt} {cl : List vw_C} {G : gG} {cn : Nat → Option Nat} {X : gX} {GT : List Cond} {D : gD} {ad : Nat → Nat} {B n : Nat} (hw : gWk l P cl G cn X GT D ad B n)
    {d : Nat} {t : gMt} {vs : List Value} {h : gH} {r : gR} {L' : gL} {v : Option Value} (g : go P G cn n d t 0 (gent vs (gmL t)) [] h = some (r, L')) (hok : gOk0 P cl G X GT t) (hfin : gfin t r.1 r.2.1 = some v) (hvs : (gsl vs).length ≤ gmL t) :
    Met l (gmN t) (Cond.code (gmN t) (gmB t) (gmL t) (gmR t) :: GT) (gRm d (r.2.2.1 - h.1) (r.2.2.2.1 - h.2.1)) (va_Pc (vs.map (gtv ad)) (gPc D cl G ad B X h)) (fun _ => gQ D cl ad B G.2.2.2.2 v r.2.2) (r.2.2.1 - h.1) (r.2.2.2.1 - h.2.1) (fun q => B ≤ q) := by
  have hok2 := hok
  obtain ⟨-, -, ⟨hcode, hpl, -⟩, -⟩ := hok2
  refine va_MetF (cc := gmB t) (maxL := gmL t) (ret := gmR t) hpl rfl ?_
  intro p e s m args below meth c s₁ B0 hml hv
  obtain ⟨rfl, hU, hR⟩ := hv
  have hts := atoms_spec (ws := Cond.code (gmN t) (gmB t) (gmL t) (gmR t) :: GT) B0.pre
  have hS : va_S (fun q => B ≤ q) s.heap s.heap [] := va_S.rf
  rw [lg_entry_eq]
  have k := hw d t 0 (gent vs (gmL t)) [] h r L' g hok p e (headSpec (Cond.code (gmN t) (gmB t) (gmL t) (gmR t) :: GT) (gRm d (r.2.2.1 - h.1) (r.2.2.2.1 - h.2.1))).room s m _ below meth c s.heap [] h.1 h.2.1
    (MQ below (fun _ => gQ D cl ad B G.2.2.2.2 v r.2.2) (vs.map (gtv ad)).toArray s (r.2.2.1 - h.1) (r.2.2.2.1 - h.2.1) (fun q => B ≤ q)) _ B0.exec B0.bytes hml (fun w hw => hts w (List.mem_cons_of_mem _ hw)) (findClass_of_methodNamed B0.named) (name_of_methodNamed B0.named B0.method).1 hU (gent_len hvs) (gent_ls hvs) hR hS (Nat.le_refl _) (Nat.le_refl _) (Nat.le_refl _) (Nat.le_refl _) (Nat.le_refl _) (Nat.le_refl _) (fun H' locs' ls' _ _ _ hR' hS' => ?_)
  · rw [Nat.sub_self, Nat.sub_self] at k
    exact k
  · unfold gfin at hfin
    split at hfin
    · rename_i I n9 hlk
      exact gw_ret hfin B0.exec B0.bytes B0.returns B0.notSynchronized (fun t9 ht hW => ⟨rfl, by rw [ht]; exact hR'.moved hW.alike, hS'.F ht⟩) (fun q hq => hS'.2.2 q hq) (hcode _ _ _ hlk)
    · cases hfin
theorem gst0_len {I : Instr} {n pc pc' : Nat} {L L' : gL} {S S' : List Value} (g : gst0 I n pc L S = some (pc', L', S')) : L'.length = L.length := by
  have key : ∀ {o : Option gN}, o = some (pc', L', S') → (∀ r, o = some r → r.2.1.length = L.length) → L'.length = L.length := fun e k => k _ e
  refine key g (fun r hr => ?_)
  clear g key
  cases I <;> simp only [gst0] at hr
  all_goals first
    | (cases hr; done)
    | ((try simp only [gpush, gII, gLL, gLI, gI1, gL1, gild, glld, gald, gist, glst, gast, giinc, gtgt, gif, gicmp, gnn, gtab, glook, gdup, gdup2, gpop] at hr)
       repeat' split at hr
       all_goals first | (cases hr; done) | (cases hr; rfl) | (cases hr; exact gsto1_len _ _ _) | (cases hr; exact gsto2_len _ _ _))
theorem gargs_0 {na : Nat} {S vs rest : List Value} (g : gargs 0 na S = some (vs, rest)) : S = vs.reverse ++ rest ∧ vs.length = na ∧ gsum rest ≤ 8 := by
  unfold gargs at g
  rw [if_pos rfl] at g
  split at g
  · rename_i hn
    cases g
    refine ⟨?_, ?_, hn.2⟩
    · rw [List.reverse_reverse, List.take_append_drop]
    · rw [List.length_reverse, List.length_take]; omega
  · cases g
theorem gargs_1 {k na : Nat} {S vs rest : List Value} (hk : k ≠ 0) (g : gargs k na S = some (vs, rest)) : ∃ (b : Nat) (As : List Value), vs = .ref b :: As ∧ S = As.reverse ++ .ref b :: rest ∧ As.length = na ∧ gsum rest ≤ 8 := by
  unfold gargs at g
  rw [if_neg hk] at g
  split at g
  · rename_i b rest' hdr
    split at g
    · rename_i hn
      cases g
      refine ⟨b, (S.take na).reverse, rfl, ?_, ?_, hn⟩
      · rw [List.reverse_reverse, ← hdr, List.take_append_drop]
      · have hl : na < S.length := by
          by_cases hl : na < S.length
          · exact hl
          · rw [List.drop_eq_nil_of_le (by omega)] at hdr
            cases hdr
        rw [List.length_reverse, List.length_take]; omega
    · cases g
  · cases g
theorem gsum_tv (ad : Nat → Nat) (S : List Value) : ((S.map (gtv ad)).map fun v => v.category).sum = gsum S := by simp [gsum, gtv_cat, Function.comp_def]
set_option maxHeartbeats 4000000 in
theorem g_walk {l : Launch} {P : Nat → Option gMt} {cl : List vw_C} {G : gG} {cn : Nat → Option Nat} {X : gX} {GT : List Cond} {D : gD} {ad : Nat → Nat} {B : Nat} (hTb : gTb cl G cn GT) (hP : ∀ y t, P y = some t → gOk P cl G X GT t) (hA : gAd ad B G.2.2.2.2) : ∀ n, gWk l P cl G cn X GT D ad B n := by
  intro n
  induction n with
  | zero =>
    intro d t pc L S h r L' g
    cases g
  | succ n ih =>
    intro d t pc L S h r L9 g hok p e R s m args below meth c H locs c0 u0 Q ls hx hb hml hts hown hnm hU hL hls hR hS hc0 hu0 hbc hbu hfr hlo kk
    have hcx := gcx_of hTb hok hA hU hx hb hts hown hnm
    have hok2 := hok
    obtain ⟨-, -, ⟨hcode, -⟩, hcalls, hcopy, hobj⟩ := hok2
    rw [go] at g
    split at g
    · cases g
    · rename_i I len hlk
      have hd := hcode _ _ _ hlk
      split at g
      · cases g
        exact kk H locs ls (hls.1.trans hL) hls hL hR hS
      · split at g
        · rename_i k idx hci
          split at g
          · cases g
          · rename_i hd0
            have hd1 : 1 ≤ d := by omega
            have hlen : len = 3 := by omega
            subst hlen
            split at g
            · rename_i hT
              split at g
              · rename_i hk
                subst hk
                split at g
                · rename_i S' h' hcp
                  obtain ⟨w1, w2, w3, w4⟩ := hcopy idx hT
                  have hI : I = .invokestatic idx := by
                    cases I <;> simp only [gci] at hci <;> cases hci
                    rfl
                  subst hI
                  have hgr := gcopy_grow hcp
                  have e0 : h.1 = h'.1 ∧ h.2.1 = h'.2.1 := by
                    unfold gcopy at hcp
                    repeat' split at hcp
                    all_goals first | (cases hcp; done) | (cases hcp; exact ⟨rfl, rfl⟩)
                  rw [e0.1, e0.2]
                  refine gw_copy hx hb (hml.trans (hL.symm.trans hls.1.symm)) hown (hts _ w1) (hts _ w2) (hts _ w3) (hts _ w4) hU.1 hA ?_ hR hS hcp (by omega) ?_ hd (fun H' locs' hR' hS' => ?_)
                  · intro u hu
                    obtain ⟨-, ⟨t0, t1, t2, t3, -⟩, -⟩ := hTb
                    rcases (show u = 0 ∨ u = 1 ∨ u = 2 ∨ u = 3 by omega) with rfl | rfl | rfl | rfl
                    · exact ⟨_, t0, rfl⟩
                    · exact ⟨_, t1, rfl⟩
                    · exact ⟨_, t2, rfl⟩
                    · exact ⟨_, t3, rfl⟩
                  · have : 8 + (nativeFrameWords "java/lang/System" "arraycopy" 5 + 11) ≤ 64 := by decide
                    omega
                  · exact ih d t (pc + 3) L S' h' r L9 g hok p e R s m args below meth c H' locs' c0 u0 Q ls hx hb hml hts hown hnm hU hL hls hR' hS' (by omega) (by omega) hbc hbu hfr hlo kk
                · cases g
              · cases g
            · rename_i hT3
              split at g
              · rename_i hT4
                split at g
                · rename_i hk
                  subst hk
                  split at g
                  · rename_i S' hp1
                    obtain ⟨b, rfl, hsm⟩ := gpop1_ok hp1
                    · have hI : I = .invokespecial idx := by
                        cases I <;> simp only [gci] at hci <;> cases hci
                        rfl
                      subst hI
                      obtain ⟨w1, w2, w3⟩ := hobj idx hT4
                      refine W.objInit hx hb hown (hts _ w1) (hts _ w2) (hts _ w3) rfl (by rw [hml]; exact hls.1.trans hL) rfl hd (by omega) ?_ ?_
                      · show 2 * 0 + ((S'.map (gtv ad)).map fun v => v.category).sum + 12 ≤ R.locals
                        rw [gsum_tv]
                        omega
                      · exact ih d t (pc + 3) L S' h r L9 g hok p e R s m args below meth c H locs c0 u0 Q ls hx hb hml hts hown hnm hU hL hls hR hS hc0 hu0 hbc hbu hfr hlo kk
                  · cases g
                · cases g
              split at g
              · rename_i t' vs rest hcal
                split at g
                · rename_i pcx Sx hx9 L8 hgo
                  split at g
                  · rename_i v hfin
                    -- the callee
                    unfold gcal at hcal
                    split at hcal
                    · rename_i k' y hTy
                      split at hcal
                      · rename_i hkk
                        subst hkk
                        split at hcal
                        · rename_i t9 hPy
                          split at hcal
                          · rename_i vs9 rest9 hargs
                            split at hcal
                            · rename_i hvs
                              cases hcal
                              obtain ⟨hvl, hrecv⟩ := hvs
                              obtain ⟨hok', hcd⟩ := hP y t' hPy
                              have hk3 : k < 3 := by
                                cases I <;> simp only [gci] at hci <;> cases hci <;> omega
                              obtain ⟨hlink, hk0, hk1, hk2⟩ := hcalls idx k y t' hTy hk3 hPy
                              have hM := g_met (l := l) (D := D) (ad := ad) (B := B) ih hgo hok' hfin hvl
                              obtain ⟨-, -, ⟨-, hpl, hini, hdsc, hL40⟩, -⟩ := hok'
                              have hgr1 := go_grow _ _ _ _ _ _ _ _ _ hgo
                              have hgr2 := go_grow _ _ _ _ _ _ _ _ _ g
                              have hg1 : h.1 ≤ hx9.1 := hgr1.1
                              have hg2 : h.2.1 ≤ hx9.2.1 := hgr1.2
                              have hg3 : hx9.1 ≤ r.2.2.1 := hgr2.1
                              have hg4 : hx9.2.1 ≤ r.2.2.2.1 := hgr2.2
                              have hgood : GoodIn GT (Cond.code (gmN t') (gmB t') (gmL t') (gmR t') :: GT) := by
                                intro w hw
                                have hw2 : w ∈ GT := by
                                  rcases List.mem_cons.mp hw with rfl | hw
                                  · exact hcd
                                  · exact hw
                                exact ⟨hw2, good_of_word (hTb.2.2.2 w hw2)⟩
                              have hroom : (gRm (d - 1) (hx9.1 - h.1) (hx9.2.1 - h.2.1)).frames + 1 ≤ R.frames ∧ 8 + (gmL t' + 11) + (gRm (d - 1) (hx9.1 - h.1) (hx9.2.1 - h.2.1)).locals ≤ R.locals := by
                                refine ⟨?_, ?_⟩
                                · show d - 1 + 1 ≤ R.frames
                                  omega
                                · show 8 + (gmL t' + 11) + 64 * (d - 1) ≤ R.locals
                                  have hL40 : gmL t' ≤ 40 := hL40
                                  omega
                              have hfit : h.1 - c0 + (hx9.1 - h.1) ≤ R.cells ∧ h.2.1 - u0 + (hx9.2.1 - h.2.1) ≤ R.slots := by omega
                              have e1 : h.1 - c0 + (hx9.1 - h.1) = hx9.1 - c0 := by omega
                              have e2 : h.2.1 - u0 + (hx9.2.1 - h.2.1) = hx9.2.1 - u0 := by omega
                              have hfx : CallFix p m c (gmB t) (gmL t) s args GT (gmN t).cls := ⟨hx, hb, hml, hown, hts⟩
                              have hblind : FrameBlind (va_Pc (vs.map (gtv ad)) (gPc D cl G ad B X h)) := fun a U g9 mk q => ⟨q.1, q.2.1.blind, q.2.2.moved (Vm.Alike.refl U.vm)⟩
                              have hpre : ∀ U : State, U.heap = H → s.WarmedH U.vm → va_Pc (vs.map (gtv ad)) (gPc D cl G ad B X h) (vs.map (gtv ad)).toArray U := fun U hUH hW =>
                                ⟨rfl, hU.to hW (fun a ha hBa => by rw [hUH]; exact hS.2.1 a ha hBa), by rw [hUH]; exact hR.moved hW.alike⟩
                              have hgs : ls.size = gmL t := hls.1.trans hL
                              have after : ∀ st0 : List Value, va_Run p l e R s m args below meth c H locs (h.1 - c0) (h.2.1 - u0) (hx9.1 - h.1) (hx9.2.1 - h.2.1) (F0 m pc ls st0) (rest.map (gtv ad)) (gQ D cl ad B G.2.2.2.2 v hx9) (fun q => B ≤ q) → W p l e R s m args below meth c H locs (h.1 - c0) (h.2.1 - u0) Q (F0 m pc ls st0) := by
                                intro st0 hrun
                                refine gw_after hrun hS (fun H1 locs1 hR1 hS1 => ?_)
                                rw [e1, e2]
                                have e3 : (v.map (gtv ad)).toList ++ rest.map (gtv ad) = (v.toList ++ rest).map (gtv ad) := by cases v <;> rfl
                                rw [e3]
                                exact ih d t (pc + 3) L (v.toList ++ rest) hx9 r L9 g hok p e R s m args below meth c H1 locs1 c0 u0 Q ls hx hb hml hts hown hnm hU hL hls hR1 hS1 (by omega) (by omega) hbc hbu hfr hlo kk
                              cases I <;> simp only [gci] at hci <;> cases hci
                              · -- a constructor
                                obtain ⟨hi1, hi2, hi3⟩ := hk2 rfl
                                obtain ⟨b, As, rfl, rfl, hAs, hsm⟩ := gargs_1 (by decide) hargs
                                rw [hi3] at hM hgood
                                rw [show (As.reverse ++ Value.ref b :: rest).map (gtv ad) = (As.map (gtv ad)).reverse ++ .ref (ad b) :: rest.map (gtv ad) by rw [List.map_append, List.map_reverse]; rfl]
                                rcases hlink with hlink | ⟨host, hlink⟩
                                · exact after _ (va_runI hfx hM ⟨callB_of (gmA t') hts hgood rfl rfl rfl (hts _ hini) (hts _ hlink) hdsc hroom, hi1, hts _ hi2⟩ ⟨hblind, hpre⟩ rfl (by rw [List.length_map]; exact hAs) hgs rfl (lv_room (by rw [gsum_tv]; exact hsm)) hd hfit)
                                · exact after _ (va_runIN hfx hM ⟨va_cnB (gmA t') hts hgood rfl rfl rfl (hU.2.2.2.1 _ hlink) (hts _ hini) hdsc hroom, hi1, hts _ hi2⟩ ⟨hblind, hpre⟩ rfl (by rw [List.length_map]; exact hAs) hgs rfl (lv_room (by rw [gsum_tv]; exact hsm)) hd hfit)
                              · -- a static method
                                have hst := hk0 rfl
                                obtain ⟨rfl, hAs, hsm⟩ := gargs_0 hargs
                                rw [show (vs.reverse ++ rest).map (gtv ad) = (vs.map (gtv ad)).reverse ++ rest.map (gtv ad) by rw [List.map_append, List.map_reverse]]
                                rcases hlink with hlink | ⟨host, hlink⟩
                                · exact after _ (va_runS hfx hM ⟨callB_of (gmA t') hts hgood rfl rfl rfl (hts _ hini) (hts _ hlink) hdsc hroom, hts _ hst⟩ ⟨hblind, hpre⟩ rfl (by rw [List.length_map]; exact hAs) hgs rfl (lv_room (by rw [gsum_tv]; exact hsm)) hd hfit)
                                · exact after _ (va_runSN hfx hM ⟨va_cnB (gmA t') hts hgood rfl rfl rfl (hU.2.2.2.1 _ hlink) (hts _ hini) hdsc hroom, hts _ hst, trivial⟩ ⟨hblind, hpre⟩ rfl (by rw [List.length_map]; exact hAs) hgs rfl (lv_room (by rw [gsum_tv]; exact hsm)) hd hfit)
                              · -- an object's method
                                obtain ⟨hv1, hv2, q, hq, hqn⟩ := hk1 rfl
                                obtain ⟨b, As, rfl, rfl, hAs, hsm⟩ := gargs_1 (by decide) hargs
                                rw [show (As.reverse ++ Value.ref b :: rest).map (gtv ad) = (As.map (gtv ad)).reverse ++ .ref (ad b) :: rest.map (gtv ad) by rw [List.map_append, List.map_reverse]; rfl]
                                unfold grecv at hrecv
                                rw [if_pos rfl] at hrecv
                                simp only [Bool.and_eq_true, decide_eq_true_eq] at hrecv
                                obtain ⟨⟨hb0, hb1⟩, hbt⟩ := hrecv
                                have hcellB : ∃ cellB : Cell, H[ad b]? = some cellB ∧ cellB.vm.isStatics = false ∧ s.vm.findClass (gmN t').cls = some cellB.cls := by
                                  have hat := hR.2.2.1 b hb0 hb1
                                  unfold gAt at hat
                                  rw [hbt] at hat
                                  obtain ⟨r9, hr9, cell, g1, g2, g3, -⟩ := hat
                                  refine ⟨cell, g1, by rw [g3]; rfl, ?_⟩
                                  rw [g2, ← hqn]
                                  exact (hU.1.1 _ q hq).2.1
                                rcases hlink with hlink | ⟨host, hlink⟩
                                · exact after _ (va_runV hfx hM ⟨callB_of (gmA t') hts hgood rfl rfl rfl (hts _ hini) (hts _ hlink) hdsc hroom, hts _ hv1, hts _ hv2⟩ ⟨hblind, hcellB, hpre⟩ rfl (by rw [List.length_map]; exact hAs) hgs rfl (lv_room (by rw [gsum_tv]; exact hsm)) hd hfit)
                                · exact after _ (va_runVN hfx hM ⟨va_cnB (gmA t') hts hgood rfl rfl rfl (hU.2.2.2.1 _ hlink) (hts _ hini) hdsc hroom, hts _ hv1, hts _ hv2⟩ ⟨hblind, hcellB, hpre⟩ rfl (by rw [List.length_map]; exact hAs) hgs rfl (lv_room (by rw [gsum_tv]; exact hsm)) hd hfit)
                            · cases hcal
                          · cases hcal
                        · cases hcal
                      · cases hcal
                    · cases hcal
                  · cases g
                · cases g
              · cases g
        · split at g
          · rename_i pc' L' S' hs0
            exact gst0_W hx hb hls hs0 hd (fun ls' hls' => ih d t pc' L' S' h r L9 g hok p e R s m args below meth c H locs c0 u0 Q ls' hx hb hml hts hown hnm hU ((gst0_len hs0).trans hL) hls' hR hS hc0 hu0 hbc hbu hfr hlo kk)
          · split at g
            · rename_i pc' S' h' hs1
              have hgr := gst1_grow hs1
              have hgr2 := go_grow _ _ _ _ _ _ _ _ _ g
              have hg3 : h'.1 ≤ r.2.2.1 := hgr2.1
              have hg4 : h'.2.1 ≤ r.2.2.2.1 := hgr2.2
              exact gst1_W hs1 hd hcx hR hS hc0 hu0 (by omega) (by omega) (fun H' locs' hR' hS' => ih d t pc' L S' h' r L9 g hok p e R s m args below meth c H' locs' c0 u0 Q ls hx hb hml hts hown hnm hU hL hls hR' hS' (by omega) (by omega) hbc hbu hfr hlo kk)
            · cases g
