def lw_At2 (p : Program) (s : State) (m : MethodId) (meth : Method) (c : Code) (b L : Nat) (xs : Nat → Int32) : Prop :=
  p.tables.exec = Jvm.exec ∧ c.code = code ∧ meth.sig.returnType = ret ∧ c.maxLocals = 8 ∧ s.vm.findClass R_law = some m.cls ∧ (∀ w ∈ lw_tbl, w.before #[Value.ref b] s = true) ∧ va_X b L xs s s.heap ∧ b < s.heap.size ∧ meth.locks = false ∧ (Jvm.Cond.and given_1 narrow_1).before #[Value.ref b] s = true ∧ meth.name = "law"
set_option maxRecDepth 100000 in
theorem lw_C {p : Program} {s : State} {m : MethodId} {meth : Method} {c : Code} (l : Launch) (hl : l.stackTraces = false) {b L : Nat} {xs : Nat → Int32} (C0 : lw_At2 p s m meth c b L xs) : ∃ (D : gD) (z w : Nat), gLC l p s m meth c b D (gadr z w b s.heap.size) ∧ gRp D gcl (gadr z w b s.heap.size) s.heap.size 1027 s (gh0 L xs) s.heap := by
  obtain ⟨hx, hb, hr, hml, hown, hts, hX, hbl, hlk, hgv, hnm⟩ := C0
  have hs : ∀ w ∈ gFl9, w.before #[Value.ref b] s = true := flat_of_before _ hgv
  have hG : ∀ w ∈ gGT, w.before #[Value.ref b] s = true := fun w hw => hts w (List.mem_filter.mp hw).1
  have hA : ∀ a : Nat, a < s.heap.size → ¬ s.heap.size ≤ a := fun a ha => Nat.not_le.mpr ha
  obtain ⟨z, ez, tz⟩ := gst_of (nm := "ZIGZAG") (N := 64) (f := fun j => gZl.getD j 0) (by decide) hs (gany_in (by decide +kernel)) (gany_in (by decide +kernel)) (fun j hj => List.mem_of_getElem? (of_decide_eq_true (List.all_eq_true.mp gZl_in j (List.mem_range.mpr hj))))
  obtain ⟨w, ew, tw⟩ := gst_of (nm := "WAVE") (N := 32) (f := fun j => gWl.getD j 0) (by decide) hs (gany_in (by decide +kernel)) (gany_in (by decide +kernel)) (fun j hj => List.mem_of_getElem? (of_decide_eq_true (List.all_eq_true.mp gWl_in j (List.mem_range.mpr hj))))
  have hz : z < s.heap.size := by obtain ⟨c9, h9, -⟩ := tz; exact (Array.getElem?_eq_some_iff.mp h9).1
  have hw : w < s.heap.size := by obtain ⟨c9, h9, -⟩ := tw; exact (Array.getElem?_eq_some_iff.mp h9).1
  obtain ⟨D, hK⟩ := gKn_of hG gin_of (fun t ty ht => by
    match t, ht with
    | 0, ht => cases ht; exact garr_p (fun _ h => by cases h) (hts (Cond.arrayClass .int) (gany_in (by decide +kernel)))
    | 1, ht => cases ht; exact garr_p (fun _ h => by cases h) (hts (Cond.arrayClass .byte) (gany_in (by decide +kernel)))
    | 2, ht => cases ht; exact garr_p (fun _ h => by cases h) (hts (Cond.arrayClass .long) (gany_in (by decide +kernel)))
    | 3, ht => cases ht; exact garr_p (fun _ h => by cases h) (hts (Cond.arrayClass .boolean) (gany_in (by decide +kernel)))
    | 4, ht => cases ht; exact garr_o (hts (Cond.arrayOver (.object "DctFilter$Band")) (gany_in (by decide +kernel)))
    | 5, ht => cases ht; exact garr_o (hts (Cond.arrayOver (.object "DctFilter$Codes")) (gany_in (by decide +kernel)))
    | 6, ht => cases ht; exact garr_o (hts (Cond.arrayOver (.object "DctFilter$Suited")) (gany_in (by decide +kernel)))
    | n + 7, ht => simp [gtys] at ht)
  have hU : gU D gcl gGG (gadr z w b s.heap.size) s.heap.size gXX s := by
    refine ⟨hK, fun q hq => ?_, fun q hq => nwall hts gfn_in _ (List.mem_map.mpr ⟨q, hq, rfl⟩), fun q hq => nwall hts gmn_in _ (List.mem_map.mpr ⟨q, hq, rfl⟩), fun C hC => va_AO.of (hts _ (gany_in (List.all_eq_true.mp gao_in C hC)))⟩
    have h9 : q = (0, "DctFilter", "ZIGZAG", "[I") ∨ q = (1, "DctFilter", "WAVE", "[I") := by
      cases hq with
      | head => exact Or.inl rfl
      | tail _ hq =>
        cases hq with
        | head => exact Or.inr rfl
        | tail _ hq => cases hq
    rcases h9 with rfl | rfl
    · exact va_Zof (hts (Cond.laysStatic "DctFilter" "ZIGZAG" "[I") (gany_in (by decide +kernel))) (hts (Cond.initialized "DctFilter") (gany_in (by decide +kernel))) ez hA
    · exact va_Zof (hts (Cond.laysStatic "DctFilter" "WAVE" "[I") (gany_in (by decide +kernel))) (hts (Cond.initialized "DctFilter") (gany_in (by decide +kernel))) ew hA
  have hV : gUX s.heap.size gVV s := by
    refine ⟨vx_Zqof (hts _ (gany_in (by decide +kernel))) (hts _ (gany_in (by decide +kernel))) (hs _ (gany_in (by decide +kernel))) hA, vx_Zqof (hts _ (gany_in (by decide +kernel))) (hts _ (gany_in (by decide +kernel))) (hs _ (gany_in (by decide +kernel))) hA, fun q hq => ?_, fun q hq => nwall hts gcas_in _ (List.mem_map.mpr ⟨q, hq, rfl⟩), fun q hq => va_Nc.of (hs _ (gany_in (List.all_eq_true.mp gnoc_in q hq))), fun x hx => nwall hts gdec_in _ (List.mem_map.mpr ⟨x, hx, rfl⟩)⟩
    have h1 := List.all_eq_true.mp gstr_in q hq
    rw [Bool.and_eq_true] at h1
    exact gstr_of (hts _ (gany_in h1.1)) (hs _ (gany_in h1.2))
  exact ⟨D, z, w, ⟨⟨hx, hb, hml, hG, hown, hnm, hr, hlk⟩, hU, hV, gadr_ok hz hw hbl, hl⟩, gh0_R tz tw hX⟩
set_option maxRecDepth 100000 in
theorem whole_start {p : Program} {e : Env} {s : State} {m : MethodId} {below : List Frame} {meth : Method} {c : Code} (l : Launch) (hl : l.stackTraces = false) {b L : Nat} {xs : Nat → Int32} (hL : L ≤ 2048) (C0 : lw_At2 p s m meth c b L xs) : W p l e room_1 s m #[Value.ref b] below meth c s.heap [] 0 0 (lw_Z below #[Value.ref b] s) (entryFrame m ([Value.ref b] : List Value).toArray 8) := by
  obtain ⟨D, z, w, C, hR⟩ := lw_C l hl C0
  have k := gw_seg (e := e) (below := below) C (E := [23]) (pc := 0) (S := []) (c0 := 1027) (u0 := 4096) (H := s.heap) (locs := []) (Q := lw_Z below #[Value.ref b] s) (sg_begin 20 (ty := gty0) (h := gh0 L xs) gty0_J gty0_uq gh0_sta gh0_stx (gh0_scr hL) (gty0_no _ ⟨by decide, by decide⟩)) rfl (by decide) (gent_ls (ad := gadr z w b s.heap.size) (vs := [.ref 2]) (n := 8) (by decide)) hR va_S.rf (Nat.le_refl _) (Nat.le_refl _) (fun r L' hF hg => ?_)
  · rw [lg_entry_eq]
    exact k
  · obtain ⟨r1, r2, h2⟩ := r
    obtain ⟨ty9, g, x, mm, o, tx, tm, to, hix, him, uq9, n1, n2, q1, q2, hw⟩ := hF
    dsimp only at n1 n2 q1 q2 hix him hg
    subst q1
    subst q2
    have e1 : h2.1 = 1091 := by have : ((gh0 L xs).1 : Int) = 1027 := rfl; omega
    have e2 : h2.2.1 = 97566 := by have : ((gh0 L xs).2.1 : Int) = 4096 := rfl; omega
    have R0 : gRo 0 0 1024 h2 1027 4096 := ⟨⟨by omega, by omega⟩, ⟨by omega, by omega⟩, by rw [e1]; omega, by rw [e2]; omega, by decide⟩
    refine ⟨R0.ok ⟨by decide, by decide⟩ ⟨by decide, by decide⟩, fun H1 locs1 ls1 hls1 hR1 hS1 => ?_⟩
    have I0 : gLTs (L : Int) (fun k => (xs k).toInt) ty9 x mm o 0 1024 0 (((fun _ => 16, fun _ => 0, fun _ => 0, fun _ => 0, fun _ => 0, fun _ => 0, fun _ => -1), (0, 0, 0, fun _ => 0)) : gSS) h2 := ⟨⟨g.1, uq9, gStx.gr g (by decide) (fun y hy => by cases hy) gh0_stx, gScr.gr g (by decide) (fun y hy => by cases hy) (gh0_scr hL)⟩, ⟨tx, tm, to⟩, ⟨hix, him⟩, ⟨by decide, by decide⟩, ⟨by decide, by decide⟩, by decide, by decide⟩
    exact lw_loop C 512 0 rfl ty9 x mm o 0 1024 0 _ h2 1027 4096 H1 locs1 ls1 I0 R0 (hls1.wk hw) hR1 hS1
set_option maxHeartbeats 4000000 in
theorem lw_walk (l : Launch) (hl : l.stackTraces = false) (b : Addr) (xs : List Int32) : MetFree l x (headSpec (Jvm.Cond.code x code maxLocals ret :: tables_1) room_1) (lw_P b xs) (fun _ _ _ _ _ => True) lw_Q := by
  refine MetFree.of_bodyS (code := code) (maxLocals := maxLocals) (ret := ret) (by decide) ?_ ?_
  · intro args s m h hn
    obtain ⟨meth, c, h1, h2, h3, h4, h5, h6, -, -⟩ := Cond.code_spec hn (atoms_spec (ws := Jvm.Cond.code x code maxLocals ret :: tables_1) h _ List.mem_cons_self)
    exact ⟨meth, c, h1, h2, h3, h4, h5, h6⟩
  · intro p e s m args below meth c s₁ B hml0 hP _
    obtain ⟨rfl, hx, hbd, hgv⟩ := hP
    obtain ⟨scr, harrAt, hlist, hof, hsmall⟩ := hx
    obtain ⟨hcb, hkn, -, -⟩ := State.arrayAt?_spec harrAt
    have hown : s.vm.findClass R_law = some m.cls := findClass_of_methodNamed B.named
    have hts0 : ∀ c ∈ (Jvm.Cond.code x code maxLocals ret :: tables_1), c.before #[Value.ref b] s = true := atoms_spec (ws := Jvm.Cond.code x code maxLocals ret :: tables_1) B.pre
    have hts : ∀ w ∈ lw_tbl, w.before #[Value.ref b] s = true := k2_hts_sels lw_privs (fun w hw => hts0 w (List.mem_cons_of_mem _ hw)) lw_privs_ok
    have hml : c.maxLocals = 8 := B.maxLocals_eq (hts0 _ List.mem_cons_self)
    have X₀ : Stand p l e room_1 s m #[Value.ref b] below meth c s₁ [] 0 0 := Stand.of_body B
    have hh0 : s₁.heap = s.heap := by rw [B.state]; rfl
    have hsz : scr.slots.size = xs.length := by rw [← Array.length_toList, hlist, List.length_map]
    have hval : ∀ j : Nat, j < xs.length → scr.slots[j]? = some (.int (xs.getD j 0)) := fun j hj => by
      rw [← Array.getElem?_toList, hlist]
      simp [hj]
    have hbl : b < s.heap.size := (Array.getElem?_eq_some_iff.mp hcb).1
    have hX : va_X b xs.length (fun j => xs.getD j 0) s s.heap := ⟨scr, hcb, hof, hkn, hsz, hval⟩
    have K : W p l e room_1 s m #[Value.ref b] below meth c s₁.heap [] 0 0 (lw_Z below #[Value.ref b] s) (entryFrame m ([Value.ref b] : List Value).toArray 8) := by
      rw [hh0]
      exact whole_start l hl hbd ⟨B.exec, B.bytes, B.returns, hml, hown, hts, hX, hbl, B.notSynchronized, hgv, (name_of_methodNamed B.named B.method).1⟩
    obtain ⟨t, a1, o, b1, b2, b3⟩ := K s₁ rfl X₀
    exact ⟨t, o, a1, b1, b2, b3⟩
theorem lw_pre_spec {args : Array Value} {s : State} (h : (Jvm.Cond.and given_1 narrow_1).before args s = true) (hr : rest_1_c.before args s = true) : ∃ (b : Addr) (xs : List Int32), lw_P b xs args s := by
  have hs := flat_of_before _ h
  have hq := flat_of_before _ hr
  have hc : (Cond.count 1).before args s = true := hs _ (by decide +kernel)
  have harr : (Cond.arrayOf (.arg 0) .int).before args s = true := hs _ (by decide +kernel)
  have hle : (Cond.le (.length (.arg 0)) (.int 2048)).before args s = true := hs _ (by decide +kernel)
  have hlen : (Cond.isInt (.length (.arg 0))).before args s = true := hq _ (by decide +kernel)
  have hall : (Cond.all (.arg 0) (.isInt (.elem (.arg 0) (.index 0)))).before args s = true := hq _ (by decide +kernel)
  obtain ⟨b, xs, hb, hx⟩ := State.ints_of_pre rfl harr hlen hall
  have hsm : xs.length < 2 ^ 31 := hx.choose_spec.2.2.2
  have hev : (Term.length (.arg 0)).eval args s none [] s = some (.int xs.length.toInt32) := hx.length_eval hb
  have hv := Cond.le_ints hev (show (Term.int 2048).eval args s none [] s = some (.int 2048) from rfl)
  have hd : xs.length.toInt32 ≤ 2048 := by
    simpa [Cond.before, Cond.holds, hv] using hle
  have hN : xs.length ≤ 2048 := (Int32.ofNat_le_ofNat hsm (by decide)).mp (show Int32.ofNat xs.length ≤ Int32.ofNat 2048 from hd)
  exact ⟨b, xs, Cond.one_arg hc (show args[0]? = some (.ref b) from hb), hx, hN, h⟩
theorem lw_comes (l : Launch) (hl : l.stackTraces = false) : Comes l x (Jvm.Cond.code x code maxLocals ret :: tables_1) room_1 (fun tb e args s => Calls_1 tb e args s ∧ rest_1 tb e args s ∧ Pre_1 tb e args s)
    (fun _ _ args s o t => lw_Q args s o t) := by
  intro p e ha hc hk s m args below hf hfit hheap happ hpre
  obtain ⟨b, xs, hP⟩ := lw_pre_spec hpre.2.2 hpre.2.1
  obtain ⟨k, o, h1, h2, h3, hQ⟩ := lw_walk l hl b xs p e ha hc hk s m args below hf ((Spec.applies_iff_loose hf).mp happ).1 hP trivial
  exact ⟨k, o, h1, h2, h3, hQ⟩
theorem lw_frame {s t : State} {o : Outcome} {args : Array Value} (h : Framed s o t [] 601024 7293034) :
    Framed s o t (fieldLocs frame_1_writes args s ++ arrayLocs frame_1_arrays args s ++ staticLocs frame_1_statics s) 601024 7293034 := h
theorem lw_limb (L : Cond) (hL : ∀ (args : Array Value) (s t : State), L.after args s (.returned (some (.int 1))) t = true) :
    ArmFor flags0 classFile x code maxLocals ret World_1 tables_1 room_1 Calls_1 rest_1 Pre_1
      (fun tb e a s o t => postC L tb e a s o t ∧ Framed s o t (fieldLocs frame_1_writes a s ++ arrayLocs frame_1_arrays a s ++ staticLocs frame_1_statics s) 601024 7293034) := by
  intro l hf0 hf1 hf2 p e ha hc hk s m args below hf hfit hheap happ hpre
  have HL9 : l.stackTraces = false := by
    unfold Launch.stackTraces
    rw [hf0]
    decide +kernel
  obtain ⟨k, o, h1, h2, h3, rfl, hF⟩ := lw_comes l HL9 p e ha hc hk s m args below hf hfit hheap happ hpre
  exact ⟨k, _, h1, h2, h3, hL args s _, lw_frame hF⟩
theorem i_vc : Claimed_1_1 ∧ Claimed_1_2 := ⟨lw_limb limb_1_1 (fun args s t => by simp [limb_1_1, Cond.after, Cond.holds, Cond.value]), lw_limb limb_1_2 (fun args s t => Cond.after_iff.mpr (by
  first | (rw [show limb_1_2 = Cond.eq .result (.int 1) from rfl, Cond.eq_ints (x := 1) (y := 1) rfl rfl]; simp; done) | (simp [limb_1_2, Cond.value, Term.eval]; done)))⟩
