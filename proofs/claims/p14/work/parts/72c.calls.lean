/-! ===== the calls of the law's helpers (by program) ===== -/
section LAWC
variable {p : Program} {l : Launch} {e : Env} {s : State} {m : MethodId} {below : List Frame} {meth : Method} {c : Code} {b : Nat} {D : gD} {ad : Nat → Nat}
theorem lw_call (C : gLC l p s m meth c b D ad) {th : gMt} {hh : List (Nat × Nat × Nat × Nat)} {pc idx : Nat} (hlk : glk pc (gmC (gtLlaw [])) = some (.invokestatic idx, 3)) (hcw : Cond.codeWith (gmN th) (gmB th) (gmL th) (gmR th) hh ∈ gGT) (hml9 : Cond.methodLink "DctFilterLaw" idx (gmN th) ∈ gGT) (hst : Cond.static (gmN th) ∈ gGT) (hini : Cond.initialized (gmN th).cls ∈ gGT)
    (hdsc : (gmN th).cls ≠ "java/lang/invoke/MethodHandle" ∧ (gmN th).cls ≠ "java/lang/invoke/VarHandle" ∧ (parseMethodDescriptor (gmN th).desc).map (fun d => d.parameters.length) = some (gmA th)) (hL40 : gmL th ≤ 40) {vs : List Value} (hlen : vs.length = gmA th) {d mc ms : Nat} {h : gH} {F : Option Value → gH → Prop}
    (hM : Met l (gmN th) (Cond.codeWith (gmN th) (gmB th) (gmL th) (gmR th) hh :: gGT) (gRm d mc ms) (va_Pc (vs.map (gtv ad)) (gPx D gcl gGG ad s.heap.size gXX gVV h)) (fun _ => gQp D gcl ad s.heap.size gGG.2.2.2.2 F) mc ms (fun q => s.heap.size ≤ q)) (hd : d ≤ 1000) {c1 u1 : Nat} (hfit : c1 + mc ≤ 601024 ∧ u1 + ms ≤ 7293034) {H : Heap} {locs : List Loc} {ls : Array Slot} {Q : State → Prop} (hsz : ls.size = 8) (hR : gRp D gcl ad s.heap.size 1027 s h H) (hS : va_S (fun q => s.heap.size ≤ q) s.heap H locs)
    (kk : ∀ (w : Option Value) (h2 : gH) (H1 : Heap) (locs1 : List Loc), F w h2 → gRp D gcl ad s.heap.size 1027 s h2 H1 → va_S (fun q => s.heap.size ≤ q) s.heap H1 locs1 → W p l e room_1 s m #[Value.ref b] below meth c H1 locs1 (c1 + mc) (u1 + ms) Q (F0 m (pc + 3) ls (w.toList.map (gtv ad)))) :
    W p l e room_1 s m #[Value.ref b] below meth c H locs c1 u1 Q (F0 m pc ls (vs.reverse.map (gtv ad))) := by
  obtain ⟨⟨hx, hb, hml, hts, hown, hnm, hr, hk⟩, hU, hV, hA, hl⟩ := C
  have k := g_callW (p := p) (e := e) (R := room_1) (m := m) (args := #[Value.ref b]) (below := below) (meth := meth) (c := c) (locs := locs) (cells := c1) (slots := u1) (Q := Q) (ls := ls) gtb_ok (goLlaw []) hlk hcw hml9 hst hini hdsc hL40 (vs := vs) (rest := []) hlen (by decide) hM hx hb hml hts hown hU hV (by show d + 1 ≤ 2048; omega) (by show 64 * (d + 1) ≤ 84000; omega) hfit hsz hR hS (fun w h2 H1 locs1 hF hR1 hS1 => by rw [List.append_nil]; exact kk w h2 H1 locs1 hF hR1 hS1)
  rw [List.append_nil] at k
  exact k
set_option maxRecDepth 100000 in
theorem lw_op_add (C : gLC l p s m meth c b D ad) {Q : State → Prop} {Ln : Int} {sc : Nat → Int} {k : Nat} (NX : gNX p l e s m below meth c b D ad Q Ln sc k) (hk : 4 * (k : Int) + 4 ≤ Ln) (hk2 : k ≤ 512) {ty : Nat → Nat} {x mm o : Nat} {ld lb iv : Int} {S : gSS} {h : gH} {c0 u0 : Nat} {H : Heap} {locs : List Loc} {ls : Array Slot} (I9 : gLTs Ln sc ty x mm o ld lb iv S h) (R9 : gRo k ld lb h c0 u0) (hls : gLs ad ls [some (.ref 2), some (.ref x), some (.ref mm), some (.ref o), some (.int (zi (4 * (k : Int)))), none, none, none]) (hR : gRp D gcl ad s.heap.size 1027 s h H) (hS : va_S (fun q => s.heap.size ≤ q) s.heap H locs) : W p l e room_1 s m #[Value.ref b] below meth c H locs (h.1 - c0) (h.2.1 - u0) Q (F0 m 104 ls []) := by
  obtain ⟨⟨hJ, uq, hysx, scr⟩, ⟨tx, tm, to⟩, ⟨hix, him⟩, rld, rlb, riv⟩ := I9
  have hyst := hysx.1
  refine gw_seg C (S := []) (sg_to_add 20 (i := 4 * (k : Int)) hJ uq hyst scr tx tm to (by omega)) rfl (by decide) hls hR hS R9.1.1 R9.1.2 (fun r L' hF hg0 => ?_)
  obtain ⟨r1, r2, h9⟩ := r
  obtain ⟨eh, hw, q1, b9, b1, b2, q2⟩ := hF
  dsimp only at eh q1 q2
  have eh2 := eh.symm
  subst eh2
  subst q1
  subst q2
  refine ⟨R9.ok rld rlb, fun H1 locs1 ls1 hls1 hR1 hS1 => ?_⟩
  have hls2 := hls1.wk hw
  have hsz : ls1.size = 8 := hls2.1
  rcases pb_add 20 hJ x tx b9 ⟨b1, b2⟩ S ld rld lb rlb iv riv uq hix with hA | hB
  · obtain ⟨n9, ⟨r1, r2, h2⟩, L9, g9, ⟨ty2, g, z, ld1, lb1, iv1, gf, z1, z2, a1, a2, a3, a4, a5, a6, e0, e1, e2, e3, e4, hix2⟩, hg⟩ := gz_grow (hp_add _ hJ x tx b9 ⟨b1, b2⟩ S ld rld lb rlb iv riv uq hA)
    dsimp only at gf e1 e2 hg
    have z0 : z = 0 := by omega
    subst z0
    have M := g_metW (V := gVV) (hh := ghLadd) (vs := [.ref x, .int (zi b9)]) (g_walk (l := l) (D := D) gtb_ok gPP_ok C.2.2.2.1 n9) g9 (goLadd []) rfl gf (Nat.le_of_ble_eq_true rfl)
    have R2 := R9.next hk2 hg.1 hg.2 e1 e2
    have ok2 := R2.ok ⟨a1, a2⟩ ⟨a3, a4⟩
    have q1 : h.1 - c0 + (h2.1 - h.1) = h2.1 - c0 := by have := R9.1.1; omega
    have q2 : h.2.1 - u0 + (h2.2.1 - h.2.1) = h2.2.1 - u0 := by have := R9.1.2; omega
    refine lw_call C (th := gtLadd []) (hh := ghLadd) (vs := [.ref x, .int (zi b9)]) (mc := h2.1 - h.1) (ms := h2.2.1 - h.2.1) (idx := 59) rfl (gwLadd _) gkLadd.1 gkLadd.2.1 gkLadd.2.2 ⟨by decide, by decide, by decide +kernel⟩ (by decide) rfl M (by decide) ?_ hsz hR1 hS1 (fun w h3 H2 locs2 hF hR2 hS2 => ?_)
    · rw [q1, q2]
      exact ok2
    · obtain ⟨rfl, rfl⟩ := hF
      rw [q1, q2]
      subst e0
      exact lw_behind_add C NX hk hk2 (kv := 0) ⟨⟨g.1, gSg.uq g uq (by decide), gStx.gr g (by decide) (fun y hy => by cases hy) hysx, gScr.gr g (by decide) (fun y hy => by cases hy) scr⟩, hix2, gIm.gr g hJ (by decide) (by decide) him⟩ ⟨g.typ hJ tx rfl, g.typ hJ tm rfl, g.typ hJ to rfl⟩ ⟨a1, a2⟩ ⟨a3, a4⟩ ⟨a5, a6⟩ (by decide) R2 hls2 hR2 hS2
  · obtain ⟨n9, ⟨r1, r2, h2⟩, L9, g9, ⟨ty2, g, ld1, lb1, iv1, a1, a2, a3, a4, a5, a6, hix2, s0, sites, e0, e1, e2, e3, e4⟩, hg⟩ := gz_grow hB
    dsimp only at s0 sites e1 e2 hg
    subst s0
    have R0 := R9.junk (j := 0) hk2 hg.1 hg.2 e1 e2
    have ok0 := R0.1.ok ⟨a1, a2⟩ ⟨a3, a4⟩
    rw [R0.2.1, R0.2.2] at ok0
    have hm1 : h2.1 - h.1 + 1 ≤ h2.1 := by have := scr.2.1; omega
    have hm2 : h2.2.1 - h.2.1 + 6 ≤ h2.2.1 := by have := R9.1.2; have := R9.2.1.2; omega
    obtain rfl := sites
    have X := g_metX (V := gVV) (cls := "java/lang/UnsupportedOperationException") (text := "there are 2,000 bytes") (names := ["java/lang/RuntimeException", "java/lang/Exception"]) (ik := 51) (is := 53) (ic := 55) C.2.2.2.2 (g_walk (l := l) (D := D) gtb_ok gPP_ok C.2.2.2.1 n9) C.2.2.2.1 g9 go68.1 (Nat.le_of_ble_eq_true rfl) rfl rfl tdc_add_13.1 tdc_add_13.2.1 tdc_add_13.2.2.1 tdc_add_13.2.2.2.1 tdc_add_13.2.2.2.2 tfit_4.1 tfit_4.2 tlk_add_13 tini_4 tst_add_13 tgw_add_13 tbw_add_13 tot_add_13 (by decide)
    have M := g_helpX (V := gVV) (hh := ghLadd) (t := gtLadd [2]) (vs := [.ref x, .int (zi b9)]) (pcI := 2) (idx := 7) (v := some (.int (zi 1))) (pre := []) (suf := []) (x := ⟨0, 5, 8, 13⟩) (nm := "java/lang/UnsupportedOperationException") (g_walk (l := l) (D := D) gtb_ok gPP_ok C.2.2.2.1 20) gtb_ok gPP_ok (goLadd _) rfl (Nat.le_of_ble_eq_true rfl) (S1 := [.int (zi b9), .ref x]) (L1 := gent [.ref x, .int (zi b9)] (gmL (gtLadd []))) rfl rfl (gcal_of rfl rfl rfl (Nat.le_of_ble_eq_true rfl) (gJ.recv (G := gGG) hJ tx rfl rfl)) X rfl (fun z hz => by cases hz) (by decide) (by decide) geLadd_13 (by decide) rfl rfl (by decide) (fun _ => rfl) rfl hm1 hm2 (gpos_in (p := 1064) (by decide +kernel))
    refine lw_call C (th := gtLadd [2]) (hh := ghLadd) (vs := [.ref x, .int (zi b9)]) (mc := h2.1 - h.1 + 1) (ms := h2.2.1 - h.2.1 + 6) (idx := 59) rfl (gwLadd _) gkLadd.1 gkLadd.2.1 gkLadd.2.2 ⟨by decide, by decide, by decide +kernel⟩ (by decide) rfl M (by decide) ?_ hsz hR1 hS1 (fun w h3 H2 locs2 hF hR2 hS2 => ?_)
    · exact ok0
    · obtain ⟨rfl, j, rfl⟩ := hF
      have R2 := R9.junk (j := j) hk2 hg.1 hg.2 e1 e2
      rw [← R2.2.1, ← R2.2.2]
      subst e0
      exact lw_behind_add C NX hk hk2 (kv := 1) (gLTs.junk (o := o) ⟨⟨g.1, gSg.uq g uq (by decide), gStx.gr g (by decide) (fun y hy => by cases hy) hysx, gScr.gr g (by decide) (fun y hy => by cases hy) scr⟩, hix2, gIm.gr g hJ (by decide) (by decide) him⟩) ⟨g.typ hJ tx rfl, g.typ hJ tm rfl, g.typ hJ to rfl⟩ ⟨a1, a2⟩ ⟨a3, a4⟩ ⟨a5, a6⟩ (by decide) R2.1 hls2 hR2 hS2
set_option maxRecDepth 100000 in
theorem lw_op_sample (C : gLC l p s m meth c b D ad) {Q : State → Prop} {Ln : Int} {sc : Nat → Int} {k : Nat} (NX : gNX p l e s m below meth c b D ad Q Ln sc k) (hk : 4 * (k : Int) + 4 ≤ Ln) (hk2 : k ≤ 512) {ty : Nat → Nat} {x mm o : Nat} {ld lb iv : Int} {S : gSS} {h : gH} {c0 u0 : Nat} {H : Heap} {locs : List Loc} {ls : Array Slot} (I9 : gLTs Ln sc ty x mm o ld lb iv S h) (R9 : gRo k ld lb h c0 u0) (hls : gLs ad ls [some (.ref 2), some (.ref x), some (.ref mm), some (.ref o), some (.int (zi (4 * (k : Int)))), none, none, none]) (hR : gRp D gcl ad s.heap.size 1027 s h H) (hS : va_S (fun q => s.heap.size ≤ q) s.heap H locs) : W p l e room_1 s m #[Value.ref b] below meth c H locs (h.1 - c0) (h.2.1 - u0) Q (F0 m 144 ls []) := by
  obtain ⟨⟨hJ, uq, hysx, scr⟩, ⟨tx, tm, to⟩, ⟨hix, him⟩, rld, rlb, riv⟩ := I9
  have hyst := hysx.1
  refine gw_seg C (S := []) (sg_to_sample 20 (i := 4 * (k : Int)) hJ uq hyst scr tx tm to (by omega)) rfl (by decide) hls hR hS R9.1.1 R9.1.2 (fun r L' hF hg0 => ?_)
  obtain ⟨r1, r2, h9⟩ := r
  obtain ⟨eh, hw, q1, q2⟩ := hF
  dsimp only at eh q1 q2
  have eh2 := eh.symm
  subst eh2
  subst q1
  subst q2
  refine ⟨R9.ok rld rlb, fun H1 locs1 ls1 hls1 hR1 hS1 => ?_⟩
  have hls2 := hls1.wk hw
  have hsz : ls1.size = 8 := hls2.1
  rcases pb_sample 20 hJ x tx (sc (4 * (k : Int) + 1).toNat) (scr.2.2.2.2.2.2 _) (sc (4 * (k : Int) + 2).toNat) (scr.2.2.2.2.2.2 _) (sc (4 * (k : Int) + 3).toNat) (scr.2.2.2.2.2.2 _) hyst S ld rld lb rlb iv riv uq hix with hA | hB
  · obtain ⟨n9, ⟨r1, r2, h2⟩, L9, g9, ⟨ty2, g, z, ld1, lb1, iv1, gf, z1, z2, a1, a2, a3, a4, a5, a6, e0, e1, e2, e3, e4, hix2⟩, hg⟩ := gz_grow (hp_sample _ hJ x tx (sc (4 * (k : Int) + 1).toNat) (scr.2.2.2.2.2.2 _) (sc (4 * (k : Int) + 2).toNat) (scr.2.2.2.2.2.2 _) (sc (4 * (k : Int) + 3).toNat) (scr.2.2.2.2.2.2 _) o to S ld rld lb rlb iv riv uq hA)
    dsimp only at gf e1 e2 hg
    have z0 : z = 0 := by omega
    subst z0
    have M := g_metW (V := gVV) (hh := ghLsample) (vs := [.ref x, .int (zi (sc (4 * (k : Int) + 1).toNat)), .int (zi (sc (4 * (k : Int) + 2).toNat)), .int (zi (sc (4 * (k : Int) + 3).toNat)), .ref o]) (g_walk (l := l) (D := D) gtb_ok gPP_ok C.2.2.2.1 n9) g9 (goLsample []) rfl gf (Nat.le_of_ble_eq_true rfl)
    have R2 := R9.next hk2 hg.1 hg.2 e1 e2
    have ok2 := R2.ok ⟨a1, a2⟩ ⟨a3, a4⟩
    have q1 : h.1 - c0 + (h2.1 - h.1) = h2.1 - c0 := by have := R9.1.1; omega
    have q2 : h.2.1 - u0 + (h2.2.1 - h.2.1) = h2.2.1 - u0 := by have := R9.1.2; omega
    refine lw_call C (th := gtLsample []) (hh := ghLsample) (vs := [.ref x, .int (zi (sc (4 * (k : Int) + 1).toNat)), .int (zi (sc (4 * (k : Int) + 2).toNat)), .int (zi (sc (4 * (k : Int) + 3).toNat)), .ref o]) (mc := h2.1 - h.1) (ms := h2.2.1 - h.2.1) (idx := 70) rfl (gwLsample _) gkLsample.1 gkLsample.2.1 gkLsample.2.2 ⟨by decide, by decide, by decide +kernel⟩ (by decide) rfl M (by decide) ?_ hsz hR1 hS1 (fun w h3 H2 locs2 hF hR2 hS2 => ?_)
    · rw [q1, q2]
      exact ok2
    · obtain ⟨rfl, rfl⟩ := hF
      rw [q1, q2]
      subst e0
      exact lw_behind_sample C NX hk hk2 (kv := 0) ⟨⟨g.1, gSg.uq g uq (by decide), gStx.gr g (by decide) (fun y hy => by cases hy) hysx, gScr.gr g (by decide) (fun y hy => by cases hy) scr⟩, hix2, gIm.gr g hJ (by decide) (by decide) him⟩ ⟨g.typ hJ tx rfl, g.typ hJ tm rfl, g.typ hJ to rfl⟩ ⟨a1, a2⟩ ⟨a3, a4⟩ ⟨a5, a6⟩ (by decide) R2 hls2 hR2 hS2
  · obtain ⟨n9, ⟨r1, r2, h2⟩, L9, g9, ⟨ty2, g, ld1, lb1, iv1, a1, a2, a3, a4, a5, a6, hix2, s0, sites, e0, e1, e2, e3, e4⟩, hg⟩ := gz_grow hB
    dsimp only at s0 sites e1 e2 hg
    subst s0
    have R0 := R9.junk (j := 0) hk2 hg.1 hg.2 e1 e2
    have ok0 := R0.1.ok ⟨a1, a2⟩ ⟨a3, a4⟩
    rw [R0.2.1, R0.2.2] at ok0
    have hm1 : h2.1 - h.1 + 1 ≤ h2.1 := by have := scr.2.1; omega
    have hm2 : h2.2.1 - h.2.1 + 6 ≤ h2.2.1 := by have := R9.1.2; have := R9.2.1.2; omega
    obtain rfl := sites
    have X := g_metX (V := gVV) (cls := "java/lang/IndexOutOfBoundsException") (text := "no such sample") (names := ["java/lang/RuntimeException", "java/lang/Exception"]) (ik := 84) (is := 86) (ic := 88) C.2.2.2.2 (g_walk (l := l) (D := D) gtb_ok gPP_ok C.2.2.2.1 n9) C.2.2.2.1 g9 go70.1 (Nat.le_of_ble_eq_true rfl) rfl rfl tdc_sample_67.1 tdc_sample_67.2.1 tdc_sample_67.2.2.1 tdc_sample_67.2.2.2.1 tdc_sample_67.2.2.2.2 tfit_3.1 tfit_3.2 tlk_sample_67 tini_3 tst_sample_67 tgw_sample_67 tbw_sample_67 tot_sample_67 (by decide)
    have M := g_helpX (V := gVV) (hh := ghLsample) (t := gtLsample [7]) (vs := [.ref x, .int (zi (sc (4 * (k : Int) + 1).toNat)), .int (zi (sc (4 * (k : Int) + 2).toNat)), .int (zi (sc (4 * (k : Int) + 3).toNat)), .ref o]) (pcI := 7) (idx := 15) (v := some (.int (zi 1))) (pre := []) (suf := []) (x := ⟨0, 12, 15, 19⟩) (nm := "java/lang/IndexOutOfBoundsException") (g_walk (l := l) (D := D) gtb_ok gPP_ok C.2.2.2.1 20) gtb_ok gPP_ok (goLsample _) rfl (Nat.le_of_ble_eq_true rfl) (S1 := [.int (zi (sc (4 * (k : Int) + 3).toNat)), .int (zi (sc (4 * (k : Int) + 2).toNat)), .int (zi (sc (4 * (k : Int) + 1).toNat)), .ref x, .int (zi 0), .ref o]) (L1 := gent [.ref x, .int (zi (sc (4 * (k : Int) + 1).toNat)), .int (zi (sc (4 * (k : Int) + 2).toNat)), .int (zi (sc (4 * (k : Int) + 3).toNat)), .ref o] (gmL (gtLsample []))) rfl rfl (gcal_of rfl rfl rfl (Nat.le_of_ble_eq_true rfl) (gJ.recv (G := gGG) hJ tx rfl rfl)) X rfl (fun z hz => by cases hz) (by decide) (by decide) geLsample_19 (by decide) rfl rfl (by decide) (fun _ => rfl) rfl hm1 hm2 (gpos_in (p := 1092) (by decide +kernel))
    refine lw_call C (th := gtLsample [7]) (hh := ghLsample) (vs := [.ref x, .int (zi (sc (4 * (k : Int) + 1).toNat)), .int (zi (sc (4 * (k : Int) + 2).toNat)), .int (zi (sc (4 * (k : Int) + 3).toNat)), .ref o]) (mc := h2.1 - h.1 + 1) (ms := h2.2.1 - h.2.1 + 6) (idx := 70) rfl (gwLsample _) gkLsample.1 gkLsample.2.1 gkLsample.2.2 ⟨by decide, by decide, by decide +kernel⟩ (by decide) rfl M (by decide) ?_ hsz hR1 hS1 (fun w h3 H2 locs2 hF hR2 hS2 => ?_)
    · exact ok0
    · obtain ⟨rfl, j, rfl⟩ := hF
      have R2 := R9.junk (j := j) hk2 hg.1 hg.2 e1 e2
      rw [← R2.2.1, ← R2.2.2]
      subst e0
      exact lw_behind_sample C NX hk hk2 (kv := 1) (gLTs.junk (o := o) ⟨⟨g.1, gSg.uq g uq (by decide), gStx.gr g (by decide) (fun y hy => by cases hy) hysx, gScr.gr g (by decide) (fun y hy => by cases hy) scr⟩, hix2, gIm.gr g hJ (by decide) (by decide) him⟩) ⟨g.typ hJ tx rfl, g.typ hJ tm rfl, g.typ hJ to rfl⟩ ⟨a1, a2⟩ ⟨a3, a4⟩ ⟨a5, a6⟩ (by decide) R2.1 hls2 hR2 hS2
set_option maxRecDepth 100000 in
theorem lw_op_coefficient (C : gLC l p s m meth c b D ad) {Q : State → Prop} {Ln : Int} {sc : Nat → Int} {k : Nat} (NX : gNX p l e s m below meth c b D ad Q Ln sc k) (hk : 4 * (k : Int) + 4 ≤ Ln) (hk2 : k ≤ 512) {ty : Nat → Nat} {x mm o : Nat} {ld lb iv : Int} {S : gSS} {h : gH} {c0 u0 : Nat} {H : Heap} {locs : List Loc} {ls : Array Slot} (I9 : gLTs Ln sc ty x mm o ld lb iv S h) (R9 : gRo k ld lb h c0 u0) (hls : gLs ad ls [some (.ref 2), some (.ref x), some (.ref mm), some (.ref o), some (.int (zi (4 * (k : Int)))), none, none, none]) (hR : gRp D gcl ad s.heap.size 1027 s h H) (hS : va_S (fun q => s.heap.size ≤ q) s.heap H locs) : W p l e room_1 s m #[Value.ref b] below meth c H locs (h.1 - c0) (h.2.1 - u0) Q (F0 m 196 ls []) := by
  obtain ⟨⟨hJ, uq, hysx, scr⟩, ⟨tx, tm, to⟩, ⟨hix, him⟩, rld, rlb, riv⟩ := I9
  have hyst := hysx.1
  refine gw_seg C (S := []) (sg_to_coefficient 20 (i := 4 * (k : Int)) hJ uq hyst scr tx tm to (by omega)) rfl (by decide) hls hR hS R9.1.1 R9.1.2 (fun r L' hF hg0 => ?_)
  obtain ⟨r1, r2, h9⟩ := r
  obtain ⟨eh, hw, q1, q2⟩ := hF
  dsimp only at eh q1 q2
  have eh2 := eh.symm
  subst eh2
  subst q1
  subst q2
  refine ⟨R9.ok rld rlb, fun H1 locs1 ls1 hls1 hR1 hS1 => ?_⟩
  have hls2 := hls1.wk hw
  have hsz : ls1.size = 8 := hls2.1
  rcases pb_coefficient 20 hJ x tx (sc (4 * (k : Int) + 1).toNat) (scr.2.2.2.2.2.2 _) (sc (4 * (k : Int) + 2).toNat) (scr.2.2.2.2.2.2 _) S ld rld lb rlb iv riv uq hix with hA | hB
  · obtain ⟨n9, ⟨r1, r2, h2⟩, L9, g9, ⟨ty2, g, z, ld1, lb1, iv1, gf, z1, z2, a1, a2, a3, a4, a5, a6, e0, e1, e2, e3, e4, hix2⟩, hg⟩ := gz_grow (hp_coefficient _ hJ x tx (sc (4 * (k : Int) + 1).toNat) (scr.2.2.2.2.2.2 _) (sc (4 * (k : Int) + 2).toNat) (scr.2.2.2.2.2.2 _) o to S ld rld lb rlb iv riv uq hA)
    dsimp only at gf e1 e2 hg
    have z0 : z = 0 := by omega
    subst z0
    have M := g_metW (V := gVV) (hh := ghLcoefficient) (vs := [.ref x, .int (zi (sc (4 * (k : Int) + 1).toNat)), .int (zi (sc (4 * (k : Int) + 2).toNat)), .ref o]) (g_walk (l := l) (D := D) gtb_ok gPP_ok C.2.2.2.1 n9) g9 (goLcoefficient []) rfl gf (Nat.le_of_ble_eq_true rfl)
    have R2 := R9.next hk2 hg.1 hg.2 e1 e2
    have ok2 := R2.ok ⟨a1, a2⟩ ⟨a3, a4⟩
    have q1 : h.1 - c0 + (h2.1 - h.1) = h2.1 - c0 := by have := R9.1.1; omega
    have q2 : h.2.1 - u0 + (h2.2.1 - h.2.1) = h2.2.1 - u0 := by have := R9.1.2; omega
    refine lw_call C (th := gtLcoefficient []) (hh := ghLcoefficient) (vs := [.ref x, .int (zi (sc (4 * (k : Int) + 1).toNat)), .int (zi (sc (4 * (k : Int) + 2).toNat)), .ref o]) (mc := h2.1 - h.1) (ms := h2.2.1 - h.2.1) (idx := 74) rfl (gwLcoefficient _) gkLcoefficient.1 gkLcoefficient.2.1 gkLcoefficient.2.2 ⟨by decide, by decide, by decide +kernel⟩ (by decide) rfl M (by decide) ?_ hsz hR1 hS1 (fun w h3 H2 locs2 hF hR2 hS2 => ?_)
    · rw [q1, q2]
      exact ok2
    · obtain ⟨rfl, rfl⟩ := hF
      rw [q1, q2]
      subst e0
      exact lw_behind_coefficient C NX hk hk2 (kv := 0) ⟨⟨g.1, gSg.uq g uq (by decide), gStx.gr g (by decide) (fun y hy => by cases hy) hysx, gScr.gr g (by decide) (fun y hy => by cases hy) scr⟩, hix2, gIm.gr g hJ (by decide) (by decide) him⟩ ⟨g.typ hJ tx rfl, g.typ hJ tm rfl, g.typ hJ to rfl⟩ ⟨a1, a2⟩ ⟨a3, a4⟩ ⟨a5, a6⟩ (by decide) R2 hls2 hR2 hS2
  · obtain ⟨n9, ⟨r1, r2, h2⟩, L9, g9, ⟨ty2, g, ld1, lb1, iv1, a1, a2, a3, a4, a5, a6, hix2, s0, sites, e0, e1, e2, e3, e4⟩, hg⟩ := gz_grow hB
    dsimp only at s0 sites e1 e2 hg
    subst s0
    have R0 := R9.junk (j := 0) hk2 hg.1 hg.2 e1 e2
    have ok0 := R0.1.ok ⟨a1, a2⟩ ⟨a3, a4⟩
    rw [R0.2.1, R0.2.2] at ok0
    have hm1 : h2.1 - h.1 + 1 ≤ h2.1 := by have := scr.2.1; omega
    have hm2 : h2.2.1 - h.2.1 + 6 ≤ h2.2.1 := by have := R9.1.2; have := R9.2.1.2; omega
    obtain rfl := sites
    have X := g_metX (V := gVV) (cls := "java/lang/ArrayIndexOutOfBoundsException") (text := "no such coefficient") (names := ["java/lang/IndexOutOfBoundsException", "java/lang/RuntimeException", "java/lang/Exception"]) (ik := 108) (is := 110) (ic := 112) C.2.2.2.2 (g_walk (l := l) (D := D) gtb_ok gPP_ok C.2.2.2.1 n9) C.2.2.2.1 g9 go79.1 (Nat.le_of_ble_eq_true rfl) rfl rfl tdc_coefficient_25.1 tdc_coefficient_25.2.1 tdc_coefficient_25.2.2.1 tdc_coefficient_25.2.2.2.1 tdc_coefficient_25.2.2.2.2 tfit_0.1 tfit_0.2 tlk_coefficient_25 tini_0 tst_coefficient_25 tgw_coefficient_25 tbw_coefficient_25 tot_coefficient_25 (by decide)
    have M := g_helpX (V := gVV) (hh := ghLcoefficient) (t := gtLcoefficient [5]) (vs := [.ref x, .int (zi (sc (4 * (k : Int) + 1).toNat)), .int (zi (sc (4 * (k : Int) + 2).toNat)), .ref o]) (pcI := 5) (idx := 21) (v := some (.int (zi 1))) (pre := []) (suf := []) (x := ⟨0, 10, 13, 25⟩) (nm := "java/lang/ArrayIndexOutOfBoundsException") (g_walk (l := l) (D := D) gtb_ok gPP_ok C.2.2.2.1 20) gtb_ok gPP_ok (goLcoefficient _) rfl (Nat.le_of_ble_eq_true rfl) (S1 := [.int (zi (sc (4 * (k : Int) + 2).toNat)), .int (zi (sc (4 * (k : Int) + 1).toNat)), .ref x, .int (zi 0), .ref o]) (L1 := gent [.ref x, .int (zi (sc (4 * (k : Int) + 1).toNat)), .int (zi (sc (4 * (k : Int) + 2).toNat)), .ref o] (gmL (gtLcoefficient []))) rfl rfl (gcal_of rfl rfl rfl (Nat.le_of_ble_eq_true rfl) (gJ.recv (G := gGG) hJ tx rfl rfl)) X rfl (fun z hz => by cases hz) (by decide) (by decide) geLcoefficient_25 (by decide) rfl rfl (by decide) (fun _ => rfl) rfl hm1 hm2 (gpos_in (p := 1152) (by decide +kernel))
    refine lw_call C (th := gtLcoefficient [5]) (hh := ghLcoefficient) (vs := [.ref x, .int (zi (sc (4 * (k : Int) + 1).toNat)), .int (zi (sc (4 * (k : Int) + 2).toNat)), .ref o]) (mc := h2.1 - h.1 + 1) (ms := h2.2.1 - h.2.1 + 6) (idx := 74) rfl (gwLcoefficient _) gkLcoefficient.1 gkLcoefficient.2.1 gkLcoefficient.2.2 ⟨by decide, by decide, by decide +kernel⟩ (by decide) rfl M (by decide) ?_ hsz hR1 hS1 (fun w h3 H2 locs2 hF hR2 hS2 => ?_)
    · exact ok0
    · obtain ⟨rfl, j, rfl⟩ := hF
      have R2 := R9.junk (j := j) hk2 hg.1 hg.2 e1 e2
      rw [← R2.2.1, ← R2.2.2]
      subst e0
      exact lw_behind_coefficient C NX hk hk2 (kv := 1) (gLTs.junk (o := o) ⟨⟨g.1, gSg.uq g uq (by decide), gStx.gr g (by decide) (fun y hy => by cases hy) hysx, gScr.gr g (by decide) (fun y hy => by cases hy) scr⟩, hix2, gIm.gr g hJ (by decide) (by decide) him⟩) ⟨g.typ hJ tx rfl, g.typ hJ tm rfl, g.typ hJ to rfl⟩ ⟨a1, a2⟩ ⟨a3, a4⟩ ⟨a5, a6⟩ (by decide) R2.1 hls2 hR2 hS2
set_option maxRecDepth 100000 in
theorem lw_op_exact (C : gLC l p s m meth c b D ad) {Q : State → Prop} {Ln : Int} {sc : Nat → Int} {k : Nat} (NX : gNX p l e s m below meth c b D ad Q Ln sc k) (hk : 4 * (k : Int) + 4 ≤ Ln) (hk2 : k ≤ 512) {ty : Nat → Nat} {x mm o : Nat} {ld lb iv : Int} {S : gSS} {h : gH} {c0 u0 : Nat} {H : Heap} {locs : List Loc} {ls : Array Slot} (I9 : gLTs Ln sc ty x mm o ld lb iv S h) (R9 : gRo k ld lb h c0 u0) (hls : gLs ad ls [some (.ref 2), some (.ref x), some (.ref mm), some (.ref o), some (.int (zi (4 * (k : Int)))), none, none, none]) (hR : gRp D gcl ad s.heap.size 1027 s h H) (hS : va_S (fun q => s.heap.size ≤ q) s.heap H locs) : W p l e room_1 s m #[Value.ref b] below meth c H locs (h.1 - c0) (h.2.1 - u0) Q (F0 m 236 ls []) := by
  obtain ⟨⟨hJ, uq, hysx, scr⟩, ⟨tx, tm, to⟩, ⟨hix, him⟩, rld, rlb, riv⟩ := I9
  have hyst := hysx.1
  refine gw_seg C (S := []) (sg_to_exact 20 (i := 4 * (k : Int)) hJ uq hyst scr tx tm to (by omega)) rfl (by decide) hls hR hS R9.1.1 R9.1.2 (fun r L' hF hg0 => ?_)
  obtain ⟨r1, r2, h9⟩ := r
  obtain ⟨eh, hw, q1, q2⟩ := hF
  dsimp only at eh q1 q2
  have eh2 := eh.symm
  subst eh2
  subst q1
  subst q2
  refine ⟨R9.ok rld rlb, fun H1 locs1 ls1 hls1 hR1 hS1 => ?_⟩
  have hls2 := hls1.wk hw
  have hsz : ls1.size = 8 := hls2.1
  rcases pb_exact 20 hJ x tx (sc (4 * (k : Int) + 1).toNat) (scr.2.2.2.2.2.2 _) (sc (4 * (k : Int) + 2).toNat) (scr.2.2.2.2.2.2 _) hyst S ld rld lb rlb iv riv uq hix with hA | hB
  · obtain ⟨n9, ⟨r1, r2, h2⟩, L9, g9, ⟨ty2, g, z, ld1, lb1, iv1, gf, z1, z2, a1, a2, a3, a4, a5, a6, e0, e1, e2, e3, e4, hix2⟩, hg⟩ := gz_grow (hp_exact _ hJ x tx (sc (4 * (k : Int) + 1).toNat) (scr.2.2.2.2.2.2 _) (sc (4 * (k : Int) + 2).toNat) (scr.2.2.2.2.2.2 _) o to S ld rld lb rlb iv riv uq hA)
    dsimp only at gf e1 e2 hg
    have z0 : z = 0 := by omega
    subst z0
    have M := g_metW (V := gVV) (hh := ghLexact) (vs := [.ref x, .int (zi (sc (4 * (k : Int) + 1).toNat)), .int (zi (sc (4 * (k : Int) + 2).toNat)), .ref o]) (g_walk (l := l) (D := D) gtb_ok gPP_ok C.2.2.2.1 n9) g9 (goLexact []) rfl gf (Nat.le_of_ble_eq_true rfl)
    have R2 := R9.next hk2 hg.1 hg.2 e1 e2
    have ok2 := R2.ok ⟨a1, a2⟩ ⟨a3, a4⟩
    have q1 : h.1 - c0 + (h2.1 - h.1) = h2.1 - c0 := by have := R9.1.1; omega
    have q2 : h.2.1 - u0 + (h2.2.1 - h.2.1) = h2.2.1 - u0 := by have := R9.1.2; omega
    refine lw_call C (th := gtLexact []) (hh := ghLexact) (vs := [.ref x, .int (zi (sc (4 * (k : Int) + 1).toNat)), .int (zi (sc (4 * (k : Int) + 2).toNat)), .ref o]) (mc := h2.1 - h.1) (ms := h2.2.1 - h.2.1) (idx := 78) rfl (gwLexact _) gkLexact.1 gkLexact.2.1 gkLexact.2.2 ⟨by decide, by decide, by decide +kernel⟩ (by decide) rfl M (by decide) ?_ hsz hR1 hS1 (fun w h3 H2 locs2 hF hR2 hS2 => ?_)
    · rw [q1, q2]
      exact ok2
    · obtain ⟨rfl, rfl⟩ := hF
      rw [q1, q2]
      subst e0
      exact lw_behind_exact C NX hk hk2 (kv := 0) ⟨⟨g.1, gSg.uq g uq (by decide), gStx.gr g (by decide) (fun y hy => by cases hy) hysx, gScr.gr g (by decide) (fun y hy => by cases hy) scr⟩, hix2, gIm.gr g hJ (by decide) (by decide) him⟩ ⟨g.typ hJ tx rfl, g.typ hJ tm rfl, g.typ hJ to rfl⟩ ⟨a1, a2⟩ ⟨a3, a4⟩ ⟨a5, a6⟩ (by decide) R2 hls2 hR2 hS2
  · obtain ⟨n9, ⟨r1, r2, h2⟩, L9, g9, ⟨ty2, g, ld1, lb1, iv1, a1, a2, a3, a4, a5, a6, hix2, s0, sites, e0, e1, e2, e3, e4⟩, hg⟩ := gz_grow hB
    dsimp only at s0 sites e1 e2 hg
    subst s0
    have R0 := R9.junk (j := 0) hk2 hg.1 hg.2 e1 e2
    have ok0 := R0.1.ok ⟨a1, a2⟩ ⟨a3, a4⟩
    rw [R0.2.1, R0.2.2] at ok0
    have hm1 : h2.1 - h.1 + 1 ≤ h2.1 := by have := scr.2.1; omega
    have hm2 : h2.2.1 - h.2.1 + 6 ≤ h2.2.1 := by have := R9.1.2; have := R9.2.1.2; omega
    obtain rfl := sites
    have X := g_metX (V := gVV) (cls := "java/lang/ArrayIndexOutOfBoundsException") (text := "no such point") (names := ["java/lang/IndexOutOfBoundsException", "java/lang/RuntimeException", "java/lang/Exception"]) (ik := 108) (is := 116) (ic := 112) C.2.2.2.2 (g_walk (l := l) (D := D) gtb_ok gPP_ok C.2.2.2.1 n9) C.2.2.2.1 g9 go80.1 (Nat.le_of_ble_eq_true rfl) rfl rfl tdc_exact_25.1 tdc_exact_25.2.1 tdc_exact_25.2.2.1 tdc_exact_25.2.2.2.1 tdc_exact_25.2.2.2.2 tfit_0.1 tfit_0.2 tlk_exact_25 tini_0 tst_exact_25 tgw_exact_25 tbw_exact_25 tot_exact_25 (by decide)
    have M := g_helpX (V := gVV) (hh := ghLexact) (t := gtLexact [5]) (vs := [.ref x, .int (zi (sc (4 * (k : Int) + 1).toNat)), .int (zi (sc (4 * (k : Int) + 2).toNat)), .ref o]) (pcI := 5) (idx := 27) (v := some (.int (zi 1))) (pre := []) (suf := []) (x := ⟨0, 9, 12, 25⟩) (nm := "java/lang/ArrayIndexOutOfBoundsException") (g_walk (l := l) (D := D) gtb_ok gPP_ok C.2.2.2.1 20) gtb_ok gPP_ok (goLexact _) rfl (Nat.le_of_ble_eq_true rfl) (S1 := [.int (zi (sc (4 * (k : Int) + 2).toNat)), .int (zi (sc (4 * (k : Int) + 1).toNat)), .ref x, .int (zi 0), .ref o]) (L1 := gent [.ref x, .int (zi (sc (4 * (k : Int) + 1).toNat)), .int (zi (sc (4 * (k : Int) + 2).toNat)), .ref o] (gmL (gtLexact []))) rfl rfl (gcal_of rfl rfl rfl (Nat.le_of_ble_eq_true rfl) (gJ.recv (G := gGG) hJ tx rfl rfl)) X rfl (fun z hz => by cases hz) (by decide) (by decide) geLexact_25 (by decide) rfl rfl (by decide) (fun _ => rfl) rfl hm1 hm2 (gpos_in (p := 1164) (by decide +kernel))
    refine lw_call C (th := gtLexact [5]) (hh := ghLexact) (vs := [.ref x, .int (zi (sc (4 * (k : Int) + 1).toNat)), .int (zi (sc (4 * (k : Int) + 2).toNat)), .ref o]) (mc := h2.1 - h.1 + 1) (ms := h2.2.1 - h.2.1 + 6) (idx := 78) rfl (gwLexact _) gkLexact.1 gkLexact.2.1 gkLexact.2.2 ⟨by decide, by decide, by decide +kernel⟩ (by decide) rfl M (by decide) ?_ hsz hR1 hS1 (fun w h3 H2 locs2 hF hR2 hS2 => ?_)
    · exact ok0
    · obtain ⟨rfl, j, rfl⟩ := hF
      have R2 := R9.junk (j := j) hk2 hg.1 hg.2 e1 e2
      rw [← R2.2.1, ← R2.2.2]
      subst e0
      exact lw_behind_exact C NX hk hk2 (kv := 1) (gLTs.junk (o := o) ⟨⟨g.1, gSg.uq g uq (by decide), gStx.gr g (by decide) (fun y hy => by cases hy) hysx, gScr.gr g (by decide) (fun y hy => by cases hy) scr⟩, hix2, gIm.gr g hJ (by decide) (by decide) him⟩) ⟨g.typ hJ tx rfl, g.typ hJ tm rfl, g.typ hJ to rfl⟩ ⟨a1, a2⟩ ⟨a3, a4⟩ ⟨a5, a6⟩ (by decide) R2.1 hls2 hR2 hS2
set_option maxRecDepth 100000 in
theorem lw_op_told (C : gLC l p s m meth c b D ad) {Q : State → Prop} {Ln : Int} {sc : Nat → Int} {k : Nat} (NX : gNX p l e s m below meth c b D ad Q Ln sc k) (hk : 4 * (k : Int) + 4 ≤ Ln) (hk2 : k ≤ 512) {ty : Nat → Nat} {x mm o : Nat} {ld lb iv : Int} {S : gSS} {h : gH} {c0 u0 : Nat} {H : Heap} {locs : List Loc} {ls : Array Slot} (I9 : gLTs Ln sc ty x mm o ld lb iv S h) (R9 : gRo k ld lb h c0 u0) (hls : gLs ad ls [some (.ref 2), some (.ref x), some (.ref mm), some (.ref o), some (.int (zi (4 * (k : Int)))), none, none, none]) (hR : gRp D gcl ad s.heap.size 1027 s h H) (hS : va_S (fun q => s.heap.size ≤ q) s.heap H locs) : W p l e room_1 s m #[Value.ref b] below meth c H locs (h.1 - c0) (h.2.1 - u0) Q (F0 m 276 ls []) := by
  obtain ⟨⟨hJ, uq, hysx, scr⟩, ⟨tx, tm, to⟩, ⟨hix, him⟩, rld, rlb, riv⟩ := I9
  have hyst := hysx.1
  refine gw_seg C (S := []) (sg_to_told 20 (i := 4 * (k : Int)) hJ uq hyst scr tx tm to (by omega)) rfl (by decide) hls hR hS R9.1.1 R9.1.2 (fun r L' hF hg0 => ?_)
  obtain ⟨r1, r2, h9⟩ := r
  obtain ⟨eh, hw, q1, q2⟩ := hF
  dsimp only at eh q1 q2
  have eh2 := eh.symm
  subst eh2
  subst q1
  subst q2
  refine ⟨R9.ok rld rlb, fun H1 locs1 ls1 hls1 hR1 hS1 => ?_⟩
  have hls2 := hls1.wk hw
  have hsz : ls1.size = 8 := hls2.1
  rcases pb_told 20 hJ x tx (sc (4 * (k : Int) + 1).toNat) (scr.2.2.2.2.2.2 _) (sc (4 * (k : Int) + 2).toNat) (scr.2.2.2.2.2.2 _) S ld rld lb rlb iv riv uq hix with hA | hB
  · obtain ⟨n9, ⟨r1, r2, h2⟩, L9, g9, ⟨ty2, g, z, ld1, lb1, iv1, gf, z1, z2, a1, a2, a3, a4, a5, a6, e0, e1, e2, e3, e4, hix2⟩, hg⟩ := gz_grow (hp_told _ hJ x tx (sc (4 * (k : Int) + 1).toNat) (scr.2.2.2.2.2.2 _) (sc (4 * (k : Int) + 2).toNat) (scr.2.2.2.2.2.2 _) o to S ld rld lb rlb iv riv uq hA)
    dsimp only at gf e1 e2 hg
    have z0 : z = 0 := by omega
    subst z0
    have M := g_metW (V := gVV) (hh := ghLtold) (vs := [.ref x, .int (zi (sc (4 * (k : Int) + 1).toNat)), .int (zi (sc (4 * (k : Int) + 2).toNat)), .ref o]) (g_walk (l := l) (D := D) gtb_ok gPP_ok C.2.2.2.1 n9) g9 (goLtold []) rfl gf (Nat.le_of_ble_eq_true rfl)
    have R2 := R9.next hk2 hg.1 hg.2 e1 e2
    have ok2 := R2.ok ⟨a1, a2⟩ ⟨a3, a4⟩
    have q1 : h.1 - c0 + (h2.1 - h.1) = h2.1 - c0 := by have := R9.1.1; omega
    have q2 : h.2.1 - u0 + (h2.2.1 - h.2.1) = h2.2.1 - u0 := by have := R9.1.2; omega
    refine lw_call C (th := gtLtold []) (hh := ghLtold) (vs := [.ref x, .int (zi (sc (4 * (k : Int) + 1).toNat)), .int (zi (sc (4 * (k : Int) + 2).toNat)), .ref o]) (mc := h2.1 - h.1) (ms := h2.2.1 - h.2.1) (idx := 81) rfl (gwLtold _) gkLtold.1 gkLtold.2.1 gkLtold.2.2 ⟨by decide, by decide, by decide +kernel⟩ (by decide) rfl M (by decide) ?_ hsz hR1 hS1 (fun w h3 H2 locs2 hF hR2 hS2 => ?_)
    · rw [q1, q2]
      exact ok2
    · obtain ⟨rfl, rfl⟩ := hF
      rw [q1, q2]
      subst e0
      exact lw_behind_told C NX hk hk2 (kv := 0) ⟨⟨g.1, gSg.uq g uq (by decide), gStx.gr g (by decide) (fun y hy => by cases hy) hysx, gScr.gr g (by decide) (fun y hy => by cases hy) scr⟩, hix2, gIm.gr g hJ (by decide) (by decide) him⟩ ⟨g.typ hJ tx rfl, g.typ hJ tm rfl, g.typ hJ to rfl⟩ ⟨a1, a2⟩ ⟨a3, a4⟩ ⟨a5, a6⟩ (by decide) R2 hls2 hR2 hS2
  · obtain ⟨n9, ⟨r1, r2, h2⟩, L9, g9, ⟨ty2, g, ld1, lb1, iv1, a1, a2, a3, a4, a5, a6, hix2, s0, sites, e0, e1, e2, e3, e4⟩, hg⟩ := gz_grow hB
    dsimp only at s0 sites e1 e2 hg
    subst s0
    have R0 := R9.junk (j := 0) hk2 hg.1 hg.2 e1 e2
    have ok0 := R0.1.ok ⟨a1, a2⟩ ⟨a3, a4⟩
    rw [R0.2.1, R0.2.2] at ok0
    have hm1 : h2.1 - h.1 + 1 ≤ h2.1 := by have := scr.2.1; omega
    have hm2 : h2.2.1 - h.2.1 + 6 ≤ h2.2.1 := by have := R9.1.2; have := R9.2.1.2; omega
    obtain rfl := sites
    have X := g_metX (V := gVV) (cls := "java/lang/IndexOutOfBoundsException") (text := "nothing is told of that") (names := ["java/lang/RuntimeException", "java/lang/Exception"]) (ik := 84) (is := 122) (ic := 88) C.2.2.2.2 (g_walk (l := l) (D := D) gtb_ok gPP_ok C.2.2.2.1 n9) C.2.2.2.1 g9 go81.1 (Nat.le_of_ble_eq_true rfl) rfl rfl tdc_told_36.1 tdc_told_36.2.1 tdc_told_36.2.2.1 tdc_told_36.2.2.2.1 tdc_told_36.2.2.2.2 tfit_3.1 tfit_3.2 tlk_told_36 tini_3 tst_told_36 tgw_told_36 tbw_told_36 tot_told_36 (by decide)
    have M := g_helpX (V := gVV) (hh := ghLtold) (t := gtLtold [5]) (vs := [.ref x, .int (zi (sc (4 * (k : Int) + 1).toNat)), .int (zi (sc (4 * (k : Int) + 2).toNat)), .ref o]) (pcI := 5) (idx := 31) (v := some (.int (zi 1))) (pre := []) (suf := []) (x := ⟨0, 10, 13, 19⟩) (nm := "java/lang/IndexOutOfBoundsException") (g_walk (l := l) (D := D) gtb_ok gPP_ok C.2.2.2.1 20) gtb_ok gPP_ok (goLtold _) rfl (Nat.le_of_ble_eq_true rfl) (S1 := [.int (zi (sc (4 * (k : Int) + 2).toNat)), .int (zi (sc (4 * (k : Int) + 1).toNat)), .ref x, .int (zi 0), .ref o]) (L1 := gent [.ref x, .int (zi (sc (4 * (k : Int) + 1).toNat)), .int (zi (sc (4 * (k : Int) + 2).toNat)), .ref o] (gmL (gtLtold []))) rfl rfl (gcal_of rfl rfl rfl (Nat.le_of_ble_eq_true rfl) (gJ.recv (G := gGG) hJ tx rfl rfl)) X rfl (fun z hz => by cases hz) (by decide) (by decide) geLtold_19 (by decide) rfl rfl (by decide) (fun _ => rfl) rfl hm1 hm2 (gpos_in (p := 1173) (by decide +kernel))
    refine lw_call C (th := gtLtold [5]) (hh := ghLtold) (vs := [.ref x, .int (zi (sc (4 * (k : Int) + 1).toNat)), .int (zi (sc (4 * (k : Int) + 2).toNat)), .ref o]) (mc := h2.1 - h.1 + 1) (ms := h2.2.1 - h.2.1 + 6) (idx := 81) rfl (gwLtold _) gkLtold.1 gkLtold.2.1 gkLtold.2.2 ⟨by decide, by decide, by decide +kernel⟩ (by decide) rfl M (by decide) ?_ hsz hR1 hS1 (fun w h3 H2 locs2 hF hR2 hS2 => ?_)
    · exact ok0
    · obtain ⟨rfl, j, rfl⟩ := hF
      have R2 := R9.junk (j := j) hk2 hg.1 hg.2 e1 e2
      rw [← R2.2.1, ← R2.2.2]
      subst e0
      exact lw_behind_told C NX hk hk2 (kv := 1) (gLTs.junk (o := o) ⟨⟨g.1, gSg.uq g uq (by decide), gStx.gr g (by decide) (fun y hy => by cases hy) hysx, gScr.gr g (by decide) (fun y hy => by cases hy) scr⟩, hix2, gIm.gr g hJ (by decide) (by decide) him⟩) ⟨g.typ hJ tx rfl, g.typ hJ tm rfl, g.typ hJ to rfl⟩ ⟨a1, a2⟩ ⟨a3, a4⟩ ⟨a5, a6⟩ (by decide) R2.1 hls2 hR2 hS2
set_option maxRecDepth 100000 in
theorem lw_op_table (C : gLC l p s m meth c b D ad) {Q : State → Prop} {Ln : Int} {sc : Nat → Int} {k : Nat} (NX : gNX p l e s m below meth c b D ad Q Ln sc k) (hk : 4 * (k : Int) + 4 ≤ Ln) (hk2 : k ≤ 512) {ty : Nat → Nat} {x mm o : Nat} {ld lb iv : Int} {S : gSS} {h : gH} {c0 u0 : Nat} {H : Heap} {locs : List Loc} {ls : Array Slot} (I9 : gLTs Ln sc ty x mm o ld lb iv S h) (R9 : gRo k ld lb h c0 u0) (hls : gLs ad ls [some (.ref 2), some (.ref x), some (.ref mm), some (.ref o), some (.int (zi (4 * (k : Int)))), none, none, none]) (hR : gRp D gcl ad s.heap.size 1027 s h H) (hS : va_S (fun q => s.heap.size ≤ q) s.heap H locs) : W p l e room_1 s m #[Value.ref b] below meth c H locs (h.1 - c0) (h.2.1 - u0) Q (F0 m 316 ls []) := by
  obtain ⟨⟨hJ, uq, hysx, scr⟩, ⟨tx, tm, to⟩, ⟨hix, him⟩, rld, rlb, riv⟩ := I9
  have hyst := hysx.1
  refine gw_seg C (S := []) (sg_to_table 20 (i := 4 * (k : Int)) hJ uq hyst scr tx tm to (by omega)) rfl (by decide) hls hR hS R9.1.1 R9.1.2 (fun r L' hF hg0 => ?_)
  obtain ⟨r1, r2, h9⟩ := r
  obtain ⟨eh, hw, q1, q2⟩ := hF
  dsimp only at eh q1 q2
  have eh2 := eh.symm
  subst eh2
  subst q1
  subst q2
  refine ⟨R9.ok rld rlb, fun H1 locs1 ls1 hls1 hR1 hS1 => ?_⟩
  have hls2 := hls1.wk hw
  have hsz : ls1.size = 8 := hls2.1
  rcases pb_table 20 hJ x tx (sc (4 * (k : Int) + 1).toNat) (scr.2.2.2.2.2.2 _) (sc (4 * (k : Int) + 2).toNat) (scr.2.2.2.2.2.2 _) (sc (4 * (k : Int) + 3).toNat) (scr.2.2.2.2.2.2 _) S ld rld lb rlb iv riv uq hix with hA | hB
  · obtain ⟨n9, ⟨r1, r2, h2⟩, L9, g9, ⟨ty2, g, z, ld1, lb1, iv1, gf, z1, z2, a1, a2, a3, a4, a5, a6, en0, en1, en2, en3, en4, e0, e1, e2, e3, e4, hix2⟩, hg⟩ := gz_grow (hp_table _ hJ x tx (sc (4 * (k : Int) + 1).toNat) (scr.2.2.2.2.2.2 _) (sc (4 * (k : Int) + 2).toNat) (scr.2.2.2.2.2.2 _) (sc (4 * (k : Int) + 3).toNat) (scr.2.2.2.2.2.2 _) o to S ld rld lb rlb iv riv uq hA)
    dsimp only at gf e1 e2 hg
    have z0 : z = 0 := by omega
    subst z0
    have M := g_metW (V := gVV) (hh := ghLtable) (vs := [.ref x, .int (zi (sc (4 * (k : Int) + 1).toNat)), .int (zi (sc (4 * (k : Int) + 2).toNat)), .int (zi (sc (4 * (k : Int) + 3).toNat)), .ref o]) (g_walk (l := l) (D := D) gtb_ok gPP_ok C.2.2.2.1 n9) g9 (goLtable []) rfl gf (Nat.le_of_ble_eq_true rfl)
    have R2 := R9.next hk2 hg.1 hg.2 e1 e2
    have ok2 := R2.ok ⟨a1, a2⟩ ⟨a3, a4⟩
    have q1 : h.1 - c0 + (h2.1 - h.1) = h2.1 - c0 := by have := R9.1.1; omega
    have q2 : h.2.1 - u0 + (h2.2.1 - h.2.1) = h2.2.1 - u0 := by have := R9.1.2; omega
    refine lw_call C (th := gtLtable []) (hh := ghLtable) (vs := [.ref x, .int (zi (sc (4 * (k : Int) + 1).toNat)), .int (zi (sc (4 * (k : Int) + 2).toNat)), .int (zi (sc (4 * (k : Int) + 3).toNat)), .ref o]) (mc := h2.1 - h.1) (ms := h2.2.1 - h.2.1) (idx := 84) rfl (gwLtable _) gkLtable.1 gkLtable.2.1 gkLtable.2.2 ⟨by decide, by decide, by decide +kernel⟩ (by decide) rfl M (by decide) ?_ hsz hR1 hS1 (fun w h3 H2 locs2 hF hR2 hS2 => ?_)
    · rw [q1, q2]
      exact ok2
    · obtain ⟨rfl, rfl⟩ := hF
      rw [q1, q2]
      subst e0
      exact lw_behind_table C NX hk hk2 (kv := 0) ⟨⟨g.1, gSg.uq g uq (by decide), gStx.gr g (by decide) (fun y hy => by cases hy) hysx, gScr.gr g (by decide) (fun y hy => by cases hy) scr⟩, hix2, gIm.gr g hJ (by decide) (by decide) him⟩ ⟨g.typ hJ tx rfl, g.typ hJ tm rfl, g.typ hJ to rfl⟩ ⟨a1, a2⟩ ⟨a3, a4⟩ ⟨a5, a6⟩ (by decide) R2 hls2 hR2 hS2
  · obtain ⟨n9, ⟨r1, r2, h2⟩, L9, g9, ⟨ty2, g, ld1, lb1, iv1, a1, a2, a3, a4, a5, a6, hix2, s0, sites, e0, e1, e2, e3, e4⟩, hg⟩ := gz_grow hB
    dsimp only at s0 sites e1 e2 hg
    subst s0
    have R0 := R9.junk (j := 0) hk2 hg.1 hg.2 e1 e2
    have ok0 := R0.1.ok ⟨a1, a2⟩ ⟨a3, a4⟩
    rw [R0.2.1, R0.2.2] at ok0
    have hm1 : h2.1 - h.1 + 1 ≤ h2.1 := by have := scr.2.1; omega
    have hm2 : h2.2.1 - h.2.1 + 6 ≤ h2.2.1 := by have := R9.1.2; have := R9.2.1.2; omega
    rcases sites with ⟨rfl, w0⟩ | ⟨rfl, w0, w1, w2, w3, w4⟩
    · have X := g_metX (V := gVV) (cls := "java/lang/IndexOutOfBoundsException") (text := "no such number of a table") (names := ["java/lang/RuntimeException", "java/lang/Exception"]) (ik := 84) (is := 132) (ic := 88) C.2.2.2.2 (g_walk (l := l) (D := D) gtb_ok gPP_ok C.2.2.2.1 n9) C.2.2.2.1 g9 go85.1 (Nat.le_of_ble_eq_true rfl) rfl rfl tdc_table_19.1 tdc_table_19.2.1 tdc_table_19.2.2.1 tdc_table_19.2.2.2.1 tdc_table_19.2.2.2.2 tfit_3.1 tfit_3.2 tlk_table_19 tini_3 tst_table_19 tgw_table_19 tbw_table_19 tot_table_19 (by decide)
      have M := g_helpX (V := gVV) (hh := ghLtable) (t := gtLtable [7]) (vs := [.ref x, .int (zi (sc (4 * (k : Int) + 1).toNat)), .int (zi (sc (4 * (k : Int) + 2).toNat)), .int (zi (sc (4 * (k : Int) + 3).toNat)), .ref o]) (pcI := 7) (idx := 34) (v := some (.int (zi 1))) (pre := []) (suf := [⟨0, 12, 19, 37⟩]) (x := ⟨0, 12, 15, 19⟩) (nm := "java/lang/IndexOutOfBoundsException") (g_walk (l := l) (D := D) gtb_ok gPP_ok C.2.2.2.1 20) gtb_ok gPP_ok (goLtable _) rfl (Nat.le_of_ble_eq_true rfl) (S1 := [.int (zi (sc (4 * (k : Int) + 3).toNat)), .int (zi (sc (4 * (k : Int) + 2).toNat)), .int (zi (sc (4 * (k : Int) + 1).toNat)), .ref x, .int (zi 0), .ref o]) (L1 := gent [.ref x, .int (zi (sc (4 * (k : Int) + 1).toNat)), .int (zi (sc (4 * (k : Int) + 2).toNat)), .int (zi (sc (4 * (k : Int) + 3).toNat)), .ref o] (gmL (gtLtable []))) rfl rfl (gcal_of rfl rfl rfl (Nat.le_of_ble_eq_true rfl) (gJ.recv (G := gGG) hJ tx rfl rfl)) X rfl (fun z hz => by cases hz) (by decide) (by decide) geLtable_19 (by decide) rfl rfl (by decide) (fun _ => rfl) rfl hm1 hm2 (gpos_in (p := 1194) (by decide +kernel))
      refine lw_call C (th := gtLtable [7]) (hh := ghLtable) (vs := [.ref x, .int (zi (sc (4 * (k : Int) + 1).toNat)), .int (zi (sc (4 * (k : Int) + 2).toNat)), .int (zi (sc (4 * (k : Int) + 3).toNat)), .ref o]) (mc := h2.1 - h.1 + 1) (ms := h2.2.1 - h.2.1 + 6) (idx := 84) rfl (gwLtable _) gkLtable.1 gkLtable.2.1 gkLtable.2.2 ⟨by decide, by decide, by decide +kernel⟩ (by decide) rfl M (by decide) ?_ hsz hR1 hS1 (fun w h3 H2 locs2 hF hR2 hS2 => ?_)
      · exact ok0
      · obtain ⟨rfl, j, rfl⟩ := hF
        have R2 := R9.junk (j := j) hk2 hg.1 hg.2 e1 e2
        rw [← R2.2.1, ← R2.2.2]
        subst e0
        exact lw_behind_table C NX hk hk2 (kv := 1) (gLTs.junk (o := o) ⟨⟨g.1, gSg.uq g uq (by decide), gStx.gr g (by decide) (fun y hy => by cases hy) hysx, gScr.gr g (by decide) (fun y hy => by cases hy) scr⟩, hix2, gIm.gr g hJ (by decide) (by decide) him⟩) ⟨g.typ hJ tx rfl, g.typ hJ tm rfl, g.typ hJ to rfl⟩ ⟨a1, a2⟩ ⟨a3, a4⟩ ⟨a5, a6⟩ (by decide) R2.1 hls2 hR2 hS2
    · have X := g_metX (V := gVV) (cls := "java/lang/IllegalArgumentException") (text := "a number is 1 .. 255, or -1") (names := ["java/lang/RuntimeException", "java/lang/Exception"]) (ik := 134) (is := 136) (ic := 138) C.2.2.2.2 (g_walk (l := l) (D := D) gtb_ok gPP_ok C.2.2.2.1 n9) C.2.2.2.1 g9 go85.1 (Nat.le_of_ble_eq_true rfl) rfl rfl tdc_table_46.1 tdc_table_46.2.1 tdc_table_46.2.2.1 tdc_table_46.2.2.2.1 tdc_table_46.2.2.2.2 tfit_1.1 tfit_1.2 tlk_table_46 tini_1 tst_table_46 tgw_table_46 tbw_table_46 tot_table_46 (by decide)
      have M := g_helpX (V := gVV) (hh := ghLtable) (t := gtLtable [7]) (vs := [.ref x, .int (zi (sc (4 * (k : Int) + 1).toNat)), .int (zi (sc (4 * (k : Int) + 2).toNat)), .int (zi (sc (4 * (k : Int) + 3).toNat)), .ref o]) (pcI := 7) (idx := 34) (v := some (.int (zi 2))) (pre := [⟨0, 12, 15, 19⟩]) (suf := []) (x := ⟨0, 12, 19, 37⟩) (nm := "java/lang/IllegalArgumentException") (g_walk (l := l) (D := D) gtb_ok gPP_ok C.2.2.2.1 20) gtb_ok gPP_ok (goLtable _) rfl (Nat.le_of_ble_eq_true rfl) (S1 := [.int (zi (sc (4 * (k : Int) + 3).toNat)), .int (zi (sc (4 * (k : Int) + 2).toNat)), .int (zi (sc (4 * (k : Int) + 1).toNat)), .ref x, .int (zi 0), .ref o]) (L1 := gent [.ref x, .int (zi (sc (4 * (k : Int) + 1).toNat)), .int (zi (sc (4 * (k : Int) + 2).toNat)), .int (zi (sc (4 * (k : Int) + 3).toNat)), .ref o] (gmL (gtLtable []))) rfl rfl (gcal_of rfl rfl rfl (Nat.le_of_ble_eq_true rfl) (gJ.recv (G := gGG) hJ tx rfl rfl)) X rfl (fun z hz => by
        cases hz with
        | head => exact Or.inr ⟨by decide, "java/lang/IndexOutOfBoundsException", geLtable_19, by decide⟩
        | tail _ hz => cases hz) (by decide) (by decide) geLtable_37 (by decide) rfl rfl (by decide) (fun _ => rfl) rfl hm1 hm2 (gpos_in (p := 1194) (by decide +kernel))
      refine lw_call C (th := gtLtable [7]) (hh := ghLtable) (vs := [.ref x, .int (zi (sc (4 * (k : Int) + 1).toNat)), .int (zi (sc (4 * (k : Int) + 2).toNat)), .int (zi (sc (4 * (k : Int) + 3).toNat)), .ref o]) (mc := h2.1 - h.1 + 1) (ms := h2.2.1 - h.2.1 + 6) (idx := 84) rfl (gwLtable _) gkLtable.1 gkLtable.2.1 gkLtable.2.2 ⟨by decide, by decide, by decide +kernel⟩ (by decide) rfl M (by decide) ?_ hsz hR1 hS1 (fun w h3 H2 locs2 hF hR2 hS2 => ?_)
      · exact ok0
      · obtain ⟨rfl, j, rfl⟩ := hF
        have R2 := R9.junk (j := j) hk2 hg.1 hg.2 e1 e2
        rw [← R2.2.1, ← R2.2.2]
        subst e0
        exact lw_behind_table C NX hk hk2 (kv := 2) (gLTs.junk (o := o) ⟨⟨g.1, gSg.uq g uq (by decide), gStx.gr g (by decide) (fun y hy => by cases hy) hysx, gScr.gr g (by decide) (fun y hy => by cases hy) scr⟩, hix2, gIm.gr g hJ (by decide) (by decide) him⟩) ⟨g.typ hJ tx rfl, g.typ hJ tm rfl, g.typ hJ to rfl⟩ ⟨a1, a2⟩ ⟨a3, a4⟩ ⟨a5, a6⟩ (by decide) R2.1 hls2 hR2 hS2
set_option maxRecDepth 100000 in
theorem lw_op_point (C : gLC l p s m meth c b D ad) {Q : State → Prop} {Ln : Int} {sc : Nat → Int} {k : Nat} (NX : gNX p l e s m below meth c b D ad Q Ln sc k) (hk : 4 * (k : Int) + 4 ≤ Ln) (hk2 : k ≤ 512) {ty : Nat → Nat} {x mm o : Nat} {ld lb iv : Int} {S : gSS} {h : gH} {c0 u0 : Nat} {H : Heap} {locs : List Loc} {ls : Array Slot} (I9 : gLTs Ln sc ty x mm o ld lb iv S h) (R9 : gRo k ld lb h c0 u0) (hls : gLs ad ls [some (.ref 2), some (.ref x), some (.ref mm), some (.ref o), some (.int (zi (4 * (k : Int)))), none, none, none]) (hR : gRp D gcl ad s.heap.size 1027 s h H) (hS : va_S (fun q => s.heap.size ≤ q) s.heap H locs) : W p l e room_1 s m #[Value.ref b] below meth c H locs (h.1 - c0) (h.2.1 - u0) Q (F0 m 368 ls []) := by
  obtain ⟨⟨hJ, uq, hysx, scr⟩, ⟨tx, tm, to⟩, ⟨hix, him⟩, rld, rlb, riv⟩ := I9
  have hyst := hysx.1
  refine gw_seg C (S := []) (sg_to_point 20 (i := 4 * (k : Int)) hJ uq hyst scr tx tm to (by omega)) rfl (by decide) hls hR hS R9.1.1 R9.1.2 (fun r L' hF hg0 => ?_)
  obtain ⟨r1, r2, h9⟩ := r
  obtain ⟨eh, hw, q1, q2⟩ := hF
  dsimp only at eh q1 q2
  have eh2 := eh.symm
  subst eh2
  subst q1
  subst q2
  refine ⟨R9.ok rld rlb, fun H1 locs1 ls1 hls1 hR1 hS1 => ?_⟩
  have hls2 := hls1.wk hw
  have hsz : ls1.size = 8 := hls2.1
  rcases pb_point 20 hJ x tx (sc (4 * (k : Int) + 1).toNat) (scr.2.2.2.2.2.2 _) (sc (4 * (k : Int) + 2).toNat) (scr.2.2.2.2.2.2 _) (sc (4 * (k : Int) + 3).toNat) (scr.2.2.2.2.2.2 _) S ld rld lb rlb iv riv uq hix with hA | hB
  · obtain ⟨n9, ⟨r1, r2, h2⟩, L9, g9, ⟨ty2, g, z, ld1, lb1, iv1, gf, z1, z2, a1, a2, a3, a4, a5, a6, en0, en1, en2, en3, en4, en5, en6, e1, e2, e3, e4, hix2⟩, hg⟩ := gz_grow (hp_point _ hJ x tx (sc (4 * (k : Int) + 1).toNat) (scr.2.2.2.2.2.2 _) (sc (4 * (k : Int) + 2).toNat) (scr.2.2.2.2.2.2 _) (sc (4 * (k : Int) + 3).toNat) (scr.2.2.2.2.2.2 _) o to S ld rld lb rlb iv riv uq hA)
    dsimp only at gf e1 e2 hg
    have z0 : z = 0 := by omega
    subst z0
    have M := g_metW (V := gVV) (hh := ghLpoint) (vs := [.ref x, .int (zi (sc (4 * (k : Int) + 1).toNat)), .int (zi (sc (4 * (k : Int) + 2).toNat)), .int (zi (sc (4 * (k : Int) + 3).toNat)), .ref o]) (g_walk (l := l) (D := D) gtb_ok gPP_ok C.2.2.2.1 n9) g9 (goLpoint []) rfl gf (Nat.le_of_ble_eq_true rfl)
    have R2 := R9.next hk2 hg.1 hg.2 e1 e2
    have ok2 := R2.ok ⟨a1, a2⟩ ⟨a3, a4⟩
    have q1 : h.1 - c0 + (h2.1 - h.1) = h2.1 - c0 := by have := R9.1.1; omega
    have q2 : h.2.1 - u0 + (h2.2.1 - h.2.1) = h2.2.1 - u0 := by have := R9.1.2; omega
    refine lw_call C (th := gtLpoint []) (hh := ghLpoint) (vs := [.ref x, .int (zi (sc (4 * (k : Int) + 1).toNat)), .int (zi (sc (4 * (k : Int) + 2).toNat)), .int (zi (sc (4 * (k : Int) + 3).toNat)), .ref o]) (mc := h2.1 - h.1) (ms := h2.2.1 - h.2.1) (idx := 87) rfl (gwLpoint _) gkLpoint.1 gkLpoint.2.1 gkLpoint.2.2 ⟨by decide, by decide, by decide +kernel⟩ (by decide) rfl M (by decide) ?_ hsz hR1 hS1 (fun w h3 H2 locs2 hF hR2 hS2 => ?_)
    · rw [q1, q2]
      exact ok2
    · obtain ⟨rfl, rfl⟩ := hF
      rw [q1, q2]
      exact lw_behind_point C NX hk hk2 (kv := 0) (iv1 := iv1) ⟨a5, a6⟩ (by omega) ⟨⟨g.1, gSg.uq g uq (by decide), gStx.gr g (by decide) (fun y hy => by cases hy) hysx, gScr.gr g (by decide) (fun y hy => by cases hy) scr⟩, hix2, gIm.gr g hJ (by decide) (by decide) him⟩ ⟨g.typ hJ tx rfl, g.typ hJ tm rfl, g.typ hJ to rfl⟩ ⟨a1, a2⟩ ⟨a3, a4⟩ riv (by decide) R2 hls2 hR2 hS2
  · obtain ⟨n9, ⟨r1, r2, h2⟩, L9, g9, ⟨ty2, g, ld1, lb1, iv1, a1, a2, a3, a4, a5, a6, hix2, s0, sites, e0, e1, e2, e3, e4⟩, hg⟩ := gz_grow hB
    dsimp only at s0 sites e1 e2 hg
    subst s0
    have R0 := R9.junk (j := 0) hk2 hg.1 hg.2 e1 e2
    have ok0 := R0.1.ok ⟨a1, a2⟩ ⟨a3, a4⟩
    rw [R0.2.1, R0.2.2] at ok0
    have hm1 : h2.1 - h.1 + 1 ≤ h2.1 := by have := scr.2.1; omega
    have hm2 : h2.2.1 - h.2.1 + 6 ≤ h2.2.1 := by have := R9.1.2; have := R9.2.1.2; omega
    rcases sites with ⟨rfl, w0⟩ | ⟨rfl, w0, w1, w2, w3, w4⟩
    · have X := g_metX (V := gVV) (cls := "java/lang/IndexOutOfBoundsException") (text := "no such point of the canvas") (names := ["java/lang/RuntimeException", "java/lang/Exception"]) (ik := 84) (is := 139) (ic := 88) C.2.2.2.2 (g_walk (l := l) (D := D) gtb_ok gPP_ok C.2.2.2.1 n9) C.2.2.2.1 g9 go86.1 (Nat.le_of_ble_eq_true rfl) rfl rfl tdc_point_20.1 tdc_point_20.2.1 tdc_point_20.2.2.1 tdc_point_20.2.2.2.1 tdc_point_20.2.2.2.2 tfit_3.1 tfit_3.2 tlk_point_20 tini_3 tst_point_20 tgw_point_20 tbw_point_20 tot_point_20 (by decide)
      have M := g_helpX (V := gVV) (hh := ghLpoint) (t := gtLpoint [7]) (vs := [.ref x, .int (zi (sc (4 * (k : Int) + 1).toNat)), .int (zi (sc (4 * (k : Int) + 2).toNat)), .int (zi (sc (4 * (k : Int) + 3).toNat)), .ref o]) (pcI := 7) (idx := 39) (v := some (.int (zi 1))) (pre := []) (suf := [⟨0, 12, 19, 37⟩]) (x := ⟨0, 12, 15, 19⟩) (nm := "java/lang/IndexOutOfBoundsException") (g_walk (l := l) (D := D) gtb_ok gPP_ok C.2.2.2.1 20) gtb_ok gPP_ok (goLpoint _) rfl (Nat.le_of_ble_eq_true rfl) (S1 := [.int (zi (sc (4 * (k : Int) + 3).toNat)), .int (zi (sc (4 * (k : Int) + 2).toNat)), .int (zi (sc (4 * (k : Int) + 1).toNat)), .ref x, .int (zi 0), .ref o]) (L1 := gent [.ref x, .int (zi (sc (4 * (k : Int) + 1).toNat)), .int (zi (sc (4 * (k : Int) + 2).toNat)), .int (zi (sc (4 * (k : Int) + 3).toNat)), .ref o] (gmL (gtLpoint []))) rfl rfl (gcal_of rfl rfl rfl (Nat.le_of_ble_eq_true rfl) (gJ.recv (G := gGG) hJ tx rfl rfl)) X rfl (fun z hz => by cases hz) (by decide) (by decide) geLpoint_19 (by decide) rfl rfl (by decide) (fun _ => rfl) rfl hm1 hm2 (gpos_in (p := 1205) (by decide +kernel))
      refine lw_call C (th := gtLpoint [7]) (hh := ghLpoint) (vs := [.ref x, .int (zi (sc (4 * (k : Int) + 1).toNat)), .int (zi (sc (4 * (k : Int) + 2).toNat)), .int (zi (sc (4 * (k : Int) + 3).toNat)), .ref o]) (mc := h2.1 - h.1 + 1) (ms := h2.2.1 - h.2.1 + 6) (idx := 87) rfl (gwLpoint _) gkLpoint.1 gkLpoint.2.1 gkLpoint.2.2 ⟨by decide, by decide, by decide +kernel⟩ (by decide) rfl M (by decide) ?_ hsz hR1 hS1 (fun w h3 H2 locs2 hF hR2 hS2 => ?_)
      · exact ok0
      · obtain ⟨rfl, j, rfl⟩ := hF
        have R2 := R9.junk (j := j) hk2 hg.1 hg.2 e1 e2
        rw [← R2.2.1, ← R2.2.2]
        exact lw_behind_point C NX hk hk2 (kv := 1) (iv1 := iv1) ⟨a5, a6⟩ (by omega) (gLTs.junk (o := o) ⟨⟨g.1, gSg.uq g uq (by decide), gStx.gr g (by decide) (fun y hy => by cases hy) hysx, gScr.gr g (by decide) (fun y hy => by cases hy) scr⟩, hix2, gIm.gr g hJ (by decide) (by decide) him⟩) ⟨g.typ hJ tx rfl, g.typ hJ tm rfl, g.typ hJ to rfl⟩ ⟨a1, a2⟩ ⟨a3, a4⟩ riv (by decide) R2.1 hls2 hR2 hS2
    · have X := g_metX (V := gVV) (cls := "java/lang/IllegalArgumentException") (text := "a point is 0 .. 255") (names := ["java/lang/RuntimeException", "java/lang/Exception"]) (ik := 134) (is := 141) (ic := 138) C.2.2.2.2 (g_walk (l := l) (D := D) gtb_ok gPP_ok C.2.2.2.1 n9) C.2.2.2.1 g9 go86.1 (Nat.le_of_ble_eq_true rfl) rfl rfl tdc_point_41.1 tdc_point_41.2.1 tdc_point_41.2.2.1 tdc_point_41.2.2.2.1 tdc_point_41.2.2.2.2 tfit_1.1 tfit_1.2 tlk_point_41 tini_1 tst_point_41 tgw_point_41 tbw_point_41 tot_point_41 (by decide)
      have M := g_helpX (V := gVV) (hh := ghLpoint) (t := gtLpoint [7]) (vs := [.ref x, .int (zi (sc (4 * (k : Int) + 1).toNat)), .int (zi (sc (4 * (k : Int) + 2).toNat)), .int (zi (sc (4 * (k : Int) + 3).toNat)), .ref o]) (pcI := 7) (idx := 39) (v := some (.int (zi 2))) (pre := [⟨0, 12, 15, 19⟩]) (suf := []) (x := ⟨0, 12, 19, 37⟩) (nm := "java/lang/IllegalArgumentException") (g_walk (l := l) (D := D) gtb_ok gPP_ok C.2.2.2.1 20) gtb_ok gPP_ok (goLpoint _) rfl (Nat.le_of_ble_eq_true rfl) (S1 := [.int (zi (sc (4 * (k : Int) + 3).toNat)), .int (zi (sc (4 * (k : Int) + 2).toNat)), .int (zi (sc (4 * (k : Int) + 1).toNat)), .ref x, .int (zi 0), .ref o]) (L1 := gent [.ref x, .int (zi (sc (4 * (k : Int) + 1).toNat)), .int (zi (sc (4 * (k : Int) + 2).toNat)), .int (zi (sc (4 * (k : Int) + 3).toNat)), .ref o] (gmL (gtLpoint []))) rfl rfl (gcal_of rfl rfl rfl (Nat.le_of_ble_eq_true rfl) (gJ.recv (G := gGG) hJ tx rfl rfl)) X rfl (fun z hz => by
        cases hz with
        | head => exact Or.inr ⟨by decide, "java/lang/IndexOutOfBoundsException", geLpoint_19, by decide⟩
        | tail _ hz => cases hz) (by decide) (by decide) geLpoint_37 (by decide) rfl rfl (by decide) (fun _ => rfl) rfl hm1 hm2 (gpos_in (p := 1205) (by decide +kernel))
      refine lw_call C (th := gtLpoint [7]) (hh := ghLpoint) (vs := [.ref x, .int (zi (sc (4 * (k : Int) + 1).toNat)), .int (zi (sc (4 * (k : Int) + 2).toNat)), .int (zi (sc (4 * (k : Int) + 3).toNat)), .ref o]) (mc := h2.1 - h.1 + 1) (ms := h2.2.1 - h.2.1 + 6) (idx := 87) rfl (gwLpoint _) gkLpoint.1 gkLpoint.2.1 gkLpoint.2.2 ⟨by decide, by decide, by decide +kernel⟩ (by decide) rfl M (by decide) ?_ hsz hR1 hS1 (fun w h3 H2 locs2 hF hR2 hS2 => ?_)
      · exact ok0
      · obtain ⟨rfl, j, rfl⟩ := hF
        have R2 := R9.junk (j := j) hk2 hg.1 hg.2 e1 e2
        rw [← R2.2.1, ← R2.2.2]
        exact lw_behind_point C NX hk hk2 (kv := 2) (iv1 := iv1) ⟨a5, a6⟩ (by omega) (gLTs.junk (o := o) ⟨⟨g.1, gSg.uq g uq (by decide), gStx.gr g (by decide) (fun y hy => by cases hy) hysx, gScr.gr g (by decide) (fun y hy => by cases hy) scr⟩, hix2, gIm.gr g hJ (by decide) (by decide) him⟩) ⟨g.typ hJ tx rfl, g.typ hJ tm rfl, g.typ hJ to rfl⟩ ⟨a1, a2⟩ ⟨a3, a4⟩ riv (by decide) R2.1 hls2 hR2 hS2
set_option maxRecDepth 100000 in
theorem lw_op_restart (C : gLC l p s m meth c b D ad) {Q : State → Prop} {Ln : Int} {sc : Nat → Int} {k : Nat} (NX : gNX p l e s m below meth c b D ad Q Ln sc k) (hk : 4 * (k : Int) + 4 ≤ Ln) (hk2 : k ≤ 512) {ty : Nat → Nat} {x mm o : Nat} {ld lb iv : Int} {S : gSS} {h : gH} {c0 u0 : Nat} {H : Heap} {locs : List Loc} {ls : Array Slot} (I9 : gLTs Ln sc ty x mm o ld lb iv S h) (R9 : gRo k ld lb h c0 u0) (hls : gLs ad ls [some (.ref 2), some (.ref x), some (.ref mm), some (.ref o), some (.int (zi (4 * (k : Int)))), none, none, none]) (hR : gRp D gcl ad s.heap.size 1027 s h H) (hS : va_S (fun q => s.heap.size ≤ q) s.heap H locs) : W p l e room_1 s m #[Value.ref b] below meth c H locs (h.1 - c0) (h.2.1 - u0) Q (F0 m 469 ls []) := by
  obtain ⟨⟨hJ, uq, hysx, scr⟩, ⟨tx, tm, to⟩, ⟨hix, him⟩, rld, rlb, riv⟩ := I9
  have hyst := hysx.1
  refine gw_seg C (S := []) (sg_to_restart 20 (i := 4 * (k : Int)) hJ uq hyst scr tx tm to (by omega)) rfl (by decide) hls hR hS R9.1.1 R9.1.2 (fun r L' hF hg0 => ?_)
  obtain ⟨r1, r2, h9⟩ := r
  obtain ⟨eh, hw, q1, q2⟩ := hF
  dsimp only at eh q1 q2
  have eh2 := eh.symm
  subst eh2
  subst q1
  subst q2
  refine ⟨R9.ok rld rlb, fun H1 locs1 ls1 hls1 hR1 hS1 => ?_⟩
  have hls2 := hls1.wk hw
  have hsz : ls1.size = 8 := hls2.1
  rcases pb_restart 20 hJ x tx (sc (4 * (k : Int) + 1).toNat) (scr.2.2.2.2.2.2 _) S ld rld lb rlb iv riv uq hix with hA | hB
  · obtain ⟨n9, ⟨r1, r2, h2⟩, L9, g9, ⟨ty2, g, z, ld1, lb1, iv1, gf, z1, z2, a1, a2, a3, a4, a5, a6, en0, en1, en2, e1, e2, e3, e4, hix2⟩, hg⟩ := gz_grow (hp_restart _ hJ x tx (sc (4 * (k : Int) + 1).toNat) (scr.2.2.2.2.2.2 _) o to S ld rld lb rlb iv riv uq hA)
    dsimp only at gf e1 e2 hg
    have z0 : z = 0 := by omega
    subst z0
    have M := g_metW (V := gVV) (hh := ghLrestart) (vs := [.ref x, .int (zi (sc (4 * (k : Int) + 1).toNat)), .ref o]) (g_walk (l := l) (D := D) gtb_ok gPP_ok C.2.2.2.1 n9) g9 (goLrestart []) rfl gf (Nat.le_of_ble_eq_true rfl)
    have R2 := R9.next hk2 hg.1 hg.2 e1 e2
    have ok2 := R2.ok ⟨a1, a2⟩ ⟨a3, a4⟩
    have q1 : h.1 - c0 + (h2.1 - h.1) = h2.1 - c0 := by have := R9.1.1; omega
    have q2 : h.2.1 - u0 + (h2.2.1 - h.2.1) = h2.2.1 - u0 := by have := R9.1.2; omega
    refine lw_call C (th := gtLrestart []) (hh := ghLrestart) (vs := [.ref x, .int (zi (sc (4 * (k : Int) + 1).toNat)), .ref o]) (mc := h2.1 - h.1) (ms := h2.2.1 - h.2.1) (idx := 94) rfl (gwLrestart _) gkLrestart.1 gkLrestart.2.1 gkLrestart.2.2 ⟨by decide, by decide, by decide +kernel⟩ (by decide) rfl M (by decide) ?_ hsz hR1 hS1 (fun w h3 H2 locs2 hF hR2 hS2 => ?_)
    · rw [q1, q2]
      exact ok2
    · obtain ⟨rfl, rfl⟩ := hF
      rw [q1, q2]
      exact lw_behind_restart C NX hk hk2 (kv := 0) (iv1 := iv1) ⟨a5, a6⟩ (by omega) ⟨⟨g.1, gSg.uq g uq (by decide), gStx.gr g (by decide) (fun y hy => by cases hy) hysx, gScr.gr g (by decide) (fun y hy => by cases hy) scr⟩, hix2, gIm.gr g hJ (by decide) (by decide) him⟩ ⟨g.typ hJ tx rfl, g.typ hJ tm rfl, g.typ hJ to rfl⟩ ⟨a1, a2⟩ ⟨a3, a4⟩ riv (by decide) R2 hls2 hR2 hS2
  · obtain ⟨n9, ⟨r1, r2, h2⟩, L9, g9, ⟨ty2, g, ld1, lb1, iv1, a1, a2, a3, a4, a5, a6, hix2, s0, sites, e0, e1, e2, e3, e4⟩, hg⟩ := gz_grow hB
    dsimp only at s0 sites e1 e2 hg
    subst s0
    have R0 := R9.junk (j := 0) hk2 hg.1 hg.2 e1 e2
    have ok0 := R0.1.ok ⟨a1, a2⟩ ⟨a3, a4⟩
    rw [R0.2.1, R0.2.2] at ok0
    have hm1 : h2.1 - h.1 + 1 ≤ h2.1 := by have := scr.2.1; omega
    have hm2 : h2.2.1 - h.2.1 + 6 ≤ h2.2.1 := by have := R9.1.2; have := R9.2.1.2; omega
    obtain ⟨rfl, w0⟩ := sites
    have X := g_metX (V := gVV) (cls := "java/lang/IllegalArgumentException") (text := "an interval is 0 .. 100") (names := ["java/lang/RuntimeException", "java/lang/Exception"]) (ik := 134) (is := 149) (ic := 138) C.2.2.2.2 (g_walk (l := l) (D := D) gtb_ok gPP_ok C.2.2.2.1 n9) C.2.2.2.1 g9 go88.1 (Nat.le_of_ble_eq_true rfl) rfl rfl tdc_restart_10.1 tdc_restart_10.2.1 tdc_restart_10.2.2.1 tdc_restart_10.2.2.2.1 tdc_restart_10.2.2.2.2 tfit_1.1 tfit_1.2 tlk_restart_10 tini_1 tst_restart_10 tgw_restart_10 tbw_restart_10 tot_restart_10 (by decide)
    have M := g_helpX (V := gVV) (hh := ghLrestart) (t := gtLrestart [4]) (vs := [.ref x, .int (zi (sc (4 * (k : Int) + 1).toNat)), .ref o]) (pcI := 4) (idx := 42) (v := some (.int (zi 1))) (pre := []) (suf := []) (x := ⟨0, 9, 12, 37⟩) (nm := "java/lang/IllegalArgumentException") (g_walk (l := l) (D := D) gtb_ok gPP_ok C.2.2.2.1 20) gtb_ok gPP_ok (goLrestart _) rfl (Nat.le_of_ble_eq_true rfl) (S1 := [.int (zi (sc (4 * (k : Int) + 1).toNat)), .ref x, .int (zi 0), .ref o]) (L1 := gent [.ref x, .int (zi (sc (4 * (k : Int) + 1).toNat)), .ref o] (gmL (gtLrestart []))) rfl rfl (gcal_of rfl rfl rfl (Nat.le_of_ble_eq_true rfl) (gJ.recv (G := gGG) hJ tx rfl rfl)) X rfl (fun z hz => by cases hz) (by decide) (by decide) geLrestart_37 (by decide) rfl rfl (by decide) (fun _ => rfl) rfl hm1 hm2 (gpos_in (p := 1218) (by decide +kernel))
    refine lw_call C (th := gtLrestart [4]) (hh := ghLrestart) (vs := [.ref x, .int (zi (sc (4 * (k : Int) + 1).toNat)), .ref o]) (mc := h2.1 - h.1 + 1) (ms := h2.2.1 - h.2.1 + 6) (idx := 94) rfl (gwLrestart _) gkLrestart.1 gkLrestart.2.1 gkLrestart.2.2 ⟨by decide, by decide, by decide +kernel⟩ (by decide) rfl M (by decide) ?_ hsz hR1 hS1 (fun w h3 H2 locs2 hF hR2 hS2 => ?_)
    · exact ok0
    · obtain ⟨rfl, j, rfl⟩ := hF
      have R2 := R9.junk (j := j) hk2 hg.1 hg.2 e1 e2
      rw [← R2.2.1, ← R2.2.2]
      exact lw_behind_restart C NX hk hk2 (kv := 1) (iv1 := iv1) ⟨a5, a6⟩ (by omega) (gLTs.junk (o := o) ⟨⟨g.1, gSg.uq g uq (by decide), gStx.gr g (by decide) (fun y hy => by cases hy) hysx, gScr.gr g (by decide) (fun y hy => by cases hy) scr⟩, hix2, gIm.gr g hJ (by decide) (by decide) him⟩) ⟨g.typ hJ tx rfl, g.typ hJ tm rfl, g.typ hJ to rfl⟩ ⟨a1, a2⟩ ⟨a3, a4⟩ riv (by decide) R2.1 hls2 hR2 hS2
set_option maxRecDepth 100000 in
theorem lw_op_encode (C : gLC l p s m meth c b D ad) {Q : State → Prop} {Ln : Int} {sc : Nat → Int} {k : Nat} (NX : gNX p l e s m below meth c b D ad Q Ln sc k) (hk : 4 * (k : Int) + 4 ≤ Ln) (hk2 : k ≤ 512) {ty : Nat → Nat} {x mm o : Nat} {ld lb iv : Int} {S : gSS} {h : gH} {c0 u0 : Nat} {H : Heap} {locs : List Loc} {ls : Array Slot} (I9 : gLTs Ln sc ty x mm o ld lb iv S h) (R9 : gRo k ld lb h c0 u0) (hls : gLs ad ls [some (.ref 2), some (.ref x), some (.ref mm), some (.ref o), some (.int (zi (4 * (k : Int)))), none, none, none]) (hR : gRp D gcl ad s.heap.size 1027 s h H) (hS : va_S (fun q => s.heap.size ≤ q) s.heap H locs) : W p l e room_1 s m #[Value.ref b] below meth c H locs (h.1 - c0) (h.2.1 - u0) Q (F0 m 497 ls []) := by
  obtain ⟨⟨hJ, uq, hysx, scr⟩, ⟨tx, tm, to⟩, ⟨hix, him⟩, rld, rlb, riv⟩ := I9
  have hyst := hysx.1
  refine gw_seg C (S := []) (sg_to_encode 20 (i := 4 * (k : Int)) hJ uq hyst scr tx tm to (by omega)) rfl (by decide) hls hR hS R9.1.1 R9.1.2 (fun r L' hF hg0 => ?_)
  obtain ⟨r1, r2, h9⟩ := r
  obtain ⟨eh, hw, q1, q2⟩ := hF
  dsimp only at eh q1 q2
  have eh2 := eh.symm
  subst eh2
  subst q1
  subst q2
  refine ⟨R9.ok rld rlb, fun H1 locs1 ls1 hls1 hR1 hS1 => ?_⟩
  have hls2 := hls1.wk hw
  have hsz : ls1.size = 8 := hls2.1
  rcases pb_encode 20 hJ x tx (sc (4 * (k : Int) + 1).toNat) (scr.2.2.2.2.2.2 _) hyst S ld rld lb rlb iv riv uq hix hysx with hA | hB
  · obtain ⟨n9, ⟨r1, r2, h2⟩, L9, g9, ⟨ty2, g, z, ld1, lb1, iv1, gf, z1, z2, a1, a2, a3, a4, a5, a6, en0, en1, en2, en3, e1, e2, e3, e4, hix2, uq2⟩, hg⟩ := gz_grow (hp_encode _ hJ x tx (sc (4 * (k : Int) + 1).toNat) (scr.2.2.2.2.2.2 _) o to S ld rld lb rlb iv riv uq hA)
    dsimp only at gf e1 e2 hg
    have z0 : z = 0 := by omega
    subst z0
    have M := g_metW (V := gVV) (hh := ghLencode) (vs := [.ref x, .int (zi (sc (4 * (k : Int) + 1).toNat)), .ref o]) (g_walk (l := l) (D := D) gtb_ok gPP_ok C.2.2.2.1 n9) g9 (goLencode []) rfl gf (Nat.le_of_ble_eq_true rfl)
    have R2 := R9.next hk2 hg.1 hg.2 e1 e2
    have ok2 := R2.ok ⟨a1, a2⟩ ⟨a3, a4⟩
    have q1 : h.1 - c0 + (h2.1 - h.1) = h2.1 - c0 := by have := R9.1.1; omega
    have q2 : h.2.1 - u0 + (h2.2.1 - h.2.1) = h2.2.1 - u0 := by have := R9.1.2; omega
    refine lw_call C (th := gtLencode []) (hh := ghLencode) (vs := [.ref x, .int (zi (sc (4 * (k : Int) + 1).toNat)), .ref o]) (mc := h2.1 - h.1) (ms := h2.2.1 - h.2.1) (idx := 98) rfl (gwLencode _) gkLencode.1 gkLencode.2.1 gkLencode.2.2 ⟨by decide, by decide, by decide +kernel⟩ (by decide) rfl M (by decide) ?_ hsz hR1 hS1 (fun w h3 H2 locs2 hF hR2 hS2 => ?_)
    · rw [q1, q2]
      exact ok2
    · obtain ⟨rfl, rfl⟩ := hF
      rw [q1, q2]
      exact lw_behind_encode C NX hk hk2 (kv := 0) (iv1 := iv1) ⟨a5, a6⟩ (by omega) ⟨⟨g.1, uq2, gStx.gr g (by decide) (fun y hy => by cases hy) hysx, gScr.gr g (by decide) (fun y hy => by cases hy) scr⟩, hix2, gIm.gr g hJ (by decide) (by decide) him⟩ ⟨g.typ hJ tx rfl, g.typ hJ tm rfl, g.typ hJ to rfl⟩ ⟨a1, a2⟩ ⟨a3, a4⟩ riv (by decide) R2 hls2 hR2 hS2
  · obtain ⟨n9, ⟨r1, r2, h2⟩, L9, g9, ⟨ty2, g, ld1, lb1, iv1, a1, a2, a3, a4, a5, a6, hix2, uq2, s0, sites, e0, e1, e2, e3, e4⟩, hg⟩ := gz_grow hB
    dsimp only at s0 sites e1 e2 hg
    subst s0
    have R0 := R9.junk (j := 0) hk2 hg.1 hg.2 e1 e2
    have ok0 := R0.1.ok ⟨a1, a2⟩ ⟨a3, a4⟩
    rw [R0.2.1, R0.2.2] at ok0
    have hm1 : h2.1 - h.1 + 1 ≤ h2.1 := by have := scr.2.1; omega
    have hm2 : h2.2.1 - h.2.1 + 6 ≤ h2.2.1 := by have := R9.1.2; have := R9.2.1.2; omega
    rcases sites with ⟨rfl, w0⟩ | ⟨rfl, w0, w1, w2⟩
    · have X := g_metX (V := gVV) (cls := "java/lang/IllegalArgumentException") (text := "a quality is 1 .. 100") (names := ["java/lang/RuntimeException", "java/lang/Exception"]) (ik := 134) (is := 154) (ic := 138) C.2.2.2.2 (g_walk (l := l) (D := D) gtb_ok gPP_ok C.2.2.2.1 n9) C.2.2.2.1 g9 go89.1 (Nat.le_of_ble_eq_true rfl) rfl rfl tdc_encode_11.1 tdc_encode_11.2.1 tdc_encode_11.2.2.1 tdc_encode_11.2.2.2.1 tdc_encode_11.2.2.2.2 tfit_1.1 tfit_1.2 tlk_encode_11 tini_1 tst_encode_11 tgw_encode_11 tbw_encode_11 tot_encode_11 (by decide)
      have M := g_helpX (V := gVV) (hh := ghLencode) (t := gtLencode [4]) (vs := [.ref x, .int (zi (sc (4 * (k : Int) + 1).toNat)), .ref o]) (pcI := 4) (idx := 46) (v := some (.int (zi 1))) (pre := []) (suf := [⟨0, 9, 15, 49⟩]) (x := ⟨0, 9, 12, 37⟩) (nm := "java/lang/IllegalArgumentException") (g_walk (l := l) (D := D) gtb_ok gPP_ok C.2.2.2.1 20) gtb_ok gPP_ok (goLencode _) rfl (Nat.le_of_ble_eq_true rfl) (S1 := [.int (zi (sc (4 * (k : Int) + 1).toNat)), .ref x, .int (zi 0), .ref o]) (L1 := gent [.ref x, .int (zi (sc (4 * (k : Int) + 1).toNat)), .ref o] (gmL (gtLencode []))) rfl rfl (gcal_of rfl rfl rfl (Nat.le_of_ble_eq_true rfl) (gJ.recv (G := gGG) hJ tx rfl rfl)) X rfl (fun z hz => by cases hz) (by decide) (by decide) geLencode_37 (by decide) rfl rfl (by decide) (fun _ => rfl) rfl hm1 hm2 (gpos_in (p := 1227) (by decide +kernel))
      refine lw_call C (th := gtLencode [4]) (hh := ghLencode) (vs := [.ref x, .int (zi (sc (4 * (k : Int) + 1).toNat)), .ref o]) (mc := h2.1 - h.1 + 1) (ms := h2.2.1 - h.2.1 + 6) (idx := 98) rfl (gwLencode _) gkLencode.1 gkLencode.2.1 gkLencode.2.2 ⟨by decide, by decide, by decide +kernel⟩ (by decide) rfl M (by decide) ?_ hsz hR1 hS1 (fun w h3 H2 locs2 hF hR2 hS2 => ?_)
      · exact ok0
      · obtain ⟨rfl, j, rfl⟩ := hF
        have R2 := R9.junk (j := j) hk2 hg.1 hg.2 e1 e2
        rw [← R2.2.1, ← R2.2.2]
        exact lw_behind_encode C NX hk hk2 (kv := 1) (iv1 := iv1) ⟨a5, a6⟩ (by omega) (gLTs.junk (o := o) ⟨⟨g.1, uq2, gStx.gr g (by decide) (fun y hy => by cases hy) hysx, gScr.gr g (by decide) (fun y hy => by cases hy) scr⟩, hix2, gIm.gr g hJ (by decide) (by decide) him⟩) ⟨g.typ hJ tx rfl, g.typ hJ tm rfl, g.typ hJ to rfl⟩ ⟨a1, a2⟩ ⟨a3, a4⟩ riv (by decide) R2.1 hls2 hR2 hS2
    · have X := g_metX (V := gVV) (cls := "java/lang/IllegalStateException") (text := "no point was put") (names := ["java/lang/RuntimeException", "java/lang/Exception"]) (ik := 157) (is := 159) (ic := 161) C.2.2.2.2 (g_walk (l := l) (D := D) gtb_ok gPP_ok C.2.2.2.1 n9) C.2.2.2.1 g9 go89.1 (Nat.le_of_ble_eq_true rfl) rfl rfl tdc_encode_32.1 tdc_encode_32.2.1 tdc_encode_32.2.2.1 tdc_encode_32.2.2.2.1 tdc_encode_32.2.2.2.2 tfit_2.1 tfit_2.2 tlk_encode_32 tini_2 tst_encode_32 tgw_encode_32 tbw_encode_32 tot_encode_32 (by decide)
      have M := g_helpX (V := gVV) (hh := ghLencode) (t := gtLencode [4]) (vs := [.ref x, .int (zi (sc (4 * (k : Int) + 1).toNat)), .ref o]) (pcI := 4) (idx := 46) (v := some (.int (zi 2))) (pre := [⟨0, 9, 12, 37⟩]) (suf := []) (x := ⟨0, 9, 15, 49⟩) (nm := "java/lang/IllegalStateException") (g_walk (l := l) (D := D) gtb_ok gPP_ok C.2.2.2.1 20) gtb_ok gPP_ok (goLencode _) rfl (Nat.le_of_ble_eq_true rfl) (S1 := [.int (zi (sc (4 * (k : Int) + 1).toNat)), .ref x, .int (zi 0), .ref o]) (L1 := gent [.ref x, .int (zi (sc (4 * (k : Int) + 1).toNat)), .ref o] (gmL (gtLencode []))) rfl rfl (gcal_of rfl rfl rfl (Nat.le_of_ble_eq_true rfl) (gJ.recv (G := gGG) hJ tx rfl rfl)) X rfl (fun z hz => by
        cases hz with
        | head => exact Or.inr ⟨by decide, "java/lang/IllegalArgumentException", geLencode_37, by decide⟩
        | tail _ hz => cases hz) (by decide) (by decide) geLencode_49 (by decide) rfl rfl (by decide) (fun _ => rfl) rfl hm1 hm2 (gpos_in (p := 1227) (by decide +kernel))
      refine lw_call C (th := gtLencode [4]) (hh := ghLencode) (vs := [.ref x, .int (zi (sc (4 * (k : Int) + 1).toNat)), .ref o]) (mc := h2.1 - h.1 + 1) (ms := h2.2.1 - h.2.1 + 6) (idx := 98) rfl (gwLencode _) gkLencode.1 gkLencode.2.1 gkLencode.2.2 ⟨by decide, by decide, by decide +kernel⟩ (by decide) rfl M (by decide) ?_ hsz hR1 hS1 (fun w h3 H2 locs2 hF hR2 hS2 => ?_)
      · exact ok0
      · obtain ⟨rfl, j, rfl⟩ := hF
        have R2 := R9.junk (j := j) hk2 hg.1 hg.2 e1 e2
        rw [← R2.2.1, ← R2.2.2]
        exact lw_behind_encode C NX hk hk2 (kv := 2) (iv1 := iv1) ⟨a5, a6⟩ (by omega) (gLTs.junk (o := o) ⟨⟨g.1, uq2, gStx.gr g (by decide) (fun y hy => by cases hy) hysx, gScr.gr g (by decide) (fun y hy => by cases hy) scr⟩, hix2, gIm.gr g hJ (by decide) (by decide) him⟩) ⟨g.typ hJ tx rfl, g.typ hJ tm rfl, g.typ hJ to rfl⟩ ⟨a1, a2⟩ ⟨a3, a4⟩ riv (by decide) R2.1 hls2 hR2 hS2
set_option maxRecDepth 100000 in
theorem lw_op_octet (C : gLC l p s m meth c b D ad) {Q : State → Prop} {Ln : Int} {sc : Nat → Int} {k : Nat} (NX : gNX p l e s m below meth c b D ad Q Ln sc k) (hk : 4 * (k : Int) + 4 ≤ Ln) (hk2 : k ≤ 512) {ty : Nat → Nat} {x mm o : Nat} {ld lb iv : Int} {S : gSS} {h : gH} {c0 u0 : Nat} {H : Heap} {locs : List Loc} {ls : Array Slot} (I9 : gLTs Ln sc ty x mm o ld lb iv S h) (R9 : gRo k ld lb h c0 u0) (hls : gLs ad ls [some (.ref 2), some (.ref x), some (.ref mm), some (.ref o), some (.int (zi (4 * (k : Int)))), none, none, none]) (hR : gRp D gcl ad s.heap.size 1027 s h H) (hS : va_S (fun q => s.heap.size ≤ q) s.heap H locs) : W p l e room_1 s m #[Value.ref b] below meth c H locs (h.1 - c0) (h.2.1 - u0) Q (F0 m 525 ls []) := by
  obtain ⟨⟨hJ, uq, hysx, scr⟩, ⟨tx, tm, to⟩, ⟨hix, him⟩, rld, rlb, riv⟩ := I9
  have hyst := hysx.1
  refine gw_seg C (S := []) (sg_to_octet 20 (i := 4 * (k : Int)) hJ uq hyst scr tx tm to (by omega)) rfl (by decide) hls hR hS R9.1.1 R9.1.2 (fun r L' hF hg0 => ?_)
  obtain ⟨r1, r2, h9⟩ := r
  obtain ⟨eh, hw, q1, q2⟩ := hF
  dsimp only at eh q1 q2
  have eh2 := eh.symm
  subst eh2
  subst q1
  subst q2
  refine ⟨R9.ok rld rlb, fun H1 locs1 ls1 hls1 hR1 hS1 => ?_⟩
  have hls2 := hls1.wk hw
  have hsz : ls1.size = 8 := hls2.1
  rcases pb_octet 20 hJ x tx (sc (4 * (k : Int) + 1).toNat) (scr.2.2.2.2.2.2 _) S ld rld lb rlb iv riv uq hix with hA | hB
  · obtain ⟨n9, ⟨r1, r2, h2⟩, L9, g9, ⟨ty2, g, z, ld1, lb1, iv1, gf, z1, z2, a1, a2, a3, a4, a5, a6, en0, en1, e0, e1, e2, e3, e4, hix2⟩, hg⟩ := gz_grow (hp_octet _ hJ x tx (sc (4 * (k : Int) + 1).toNat) (scr.2.2.2.2.2.2 _) o to S ld rld lb rlb iv riv uq hA)
    dsimp only at gf e1 e2 hg
    have z0 : z = 0 := by omega
    subst z0
    have M := g_metW (V := gVV) (hh := ghLoctet) (vs := [.ref x, .int (zi (sc (4 * (k : Int) + 1).toNat)), .ref o]) (g_walk (l := l) (D := D) gtb_ok gPP_ok C.2.2.2.1 n9) g9 (goLoctet []) rfl gf (Nat.le_of_ble_eq_true rfl)
    have R2 := R9.next hk2 hg.1 hg.2 e1 e2
    have ok2 := R2.ok ⟨a1, a2⟩ ⟨a3, a4⟩
    have q1 : h.1 - c0 + (h2.1 - h.1) = h2.1 - c0 := by have := R9.1.1; omega
    have q2 : h.2.1 - u0 + (h2.2.1 - h.2.1) = h2.2.1 - u0 := by have := R9.1.2; omega
    refine lw_call C (th := gtLoctet []) (hh := ghLoctet) (vs := [.ref x, .int (zi (sc (4 * (k : Int) + 1).toNat)), .ref o]) (mc := h2.1 - h.1) (ms := h2.2.1 - h.2.1) (idx := 101) rfl (gwLoctet _) gkLoctet.1 gkLoctet.2.1 gkLoctet.2.2 ⟨by decide, by decide, by decide +kernel⟩ (by decide) rfl M (by decide) ?_ hsz hR1 hS1 (fun w h3 H2 locs2 hF hR2 hS2 => ?_)
    · rw [q1, q2]
      exact ok2
    · obtain ⟨rfl, rfl⟩ := hF
      rw [q1, q2]
      subst e0
      exact lw_behind_octet C NX hk hk2 (kv := 0) ⟨⟨g.1, gSg.uq g uq (by decide), gStx.gr g (by decide) (fun y hy => by cases hy) hysx, gScr.gr g (by decide) (fun y hy => by cases hy) scr⟩, hix2, gIm.gr g hJ (by decide) (by decide) him⟩ ⟨g.typ hJ tx rfl, g.typ hJ tm rfl, g.typ hJ to rfl⟩ ⟨a1, a2⟩ ⟨a3, a4⟩ ⟨a5, a6⟩ (by decide) R2 hls2 hR2 hS2
  · obtain ⟨n9, ⟨r1, r2, h2⟩, L9, g9, ⟨ty2, g, ld1, lb1, iv1, a1, a2, a3, a4, a5, a6, hix2, s0, sites, e0, e1, e2, e3, e4⟩, hg⟩ := gz_grow hB
    dsimp only at s0 sites e1 e2 hg
    subst s0
    have R0 := R9.junk (j := 0) hk2 hg.1 hg.2 e1 e2
    have ok0 := R0.1.ok ⟨a1, a2⟩ ⟨a3, a4⟩
    rw [R0.2.1, R0.2.2] at ok0
    have hm1 : h2.1 - h.1 + 1 ≤ h2.1 := by have := scr.2.1; omega
    have hm2 : h2.2.1 - h.2.1 + 6 ≤ h2.2.1 := by have := R9.1.2; have := R9.2.1.2; omega
    obtain ⟨rfl, w0⟩ := sites
    have X := g_metX (V := gVV) (cls := "java/lang/ArrayIndexOutOfBoundsException") (text := "no such byte was written") (names := ["java/lang/IndexOutOfBoundsException", "java/lang/RuntimeException", "java/lang/Exception"]) (ik := 108) (is := 206) (ic := 112) C.2.2.2.2 (g_walk (l := l) (D := D) gtb_ok gPP_ok C.2.2.2.1 n9) C.2.2.2.1 g9 go129.1 (Nat.le_of_ble_eq_true rfl) rfl rfl tdc_octet_15.1 tdc_octet_15.2.1 tdc_octet_15.2.2.1 tdc_octet_15.2.2.2.1 tdc_octet_15.2.2.2.2 tfit_0.1 tfit_0.2 tlk_octet_15 tini_0 tst_octet_15 tgw_octet_15 tbw_octet_15 tot_octet_15 (by decide)
    have M := g_helpX (V := gVV) (hh := ghLoctet) (t := gtLoctet [4]) (vs := [.ref x, .int (zi (sc (4 * (k : Int) + 1).toNat)), .ref o]) (pcI := 4) (idx := 51) (v := some (.int (zi 1))) (pre := []) (suf := []) (x := ⟨0, 9, 12, 25⟩) (nm := "java/lang/ArrayIndexOutOfBoundsException") (g_walk (l := l) (D := D) gtb_ok gPP_ok C.2.2.2.1 20) gtb_ok gPP_ok (goLoctet _) rfl (Nat.le_of_ble_eq_true rfl) (S1 := [.int (zi (sc (4 * (k : Int) + 1).toNat)), .ref x, .int (zi 0), .ref o]) (L1 := gent [.ref x, .int (zi (sc (4 * (k : Int) + 1).toNat)), .ref o] (gmL (gtLoctet []))) rfl rfl (gcal_of rfl rfl rfl (Nat.le_of_ble_eq_true rfl) (gJ.recv (G := gGG) hJ tx rfl rfl)) X rfl (fun z hz => by cases hz) (by decide) (by decide) geLoctet_25 (by decide) rfl rfl (by decide) (fun _ => rfl) rfl hm1 hm2 (gpos_in (p := 1500) (by decide +kernel))
    refine lw_call C (th := gtLoctet [4]) (hh := ghLoctet) (vs := [.ref x, .int (zi (sc (4 * (k : Int) + 1).toNat)), .ref o]) (mc := h2.1 - h.1 + 1) (ms := h2.2.1 - h.2.1 + 6) (idx := 101) rfl (gwLoctet _) gkLoctet.1 gkLoctet.2.1 gkLoctet.2.2 ⟨by decide, by decide, by decide +kernel⟩ (by decide) rfl M (by decide) ?_ hsz hR1 hS1 (fun w h3 H2 locs2 hF hR2 hS2 => ?_)
    · exact ok0
    · obtain ⟨rfl, j, rfl⟩ := hF
      have R2 := R9.junk (j := j) hk2 hg.1 hg.2 e1 e2
      rw [← R2.2.1, ← R2.2.2]
      subst e0
      exact lw_behind_octet C NX hk hk2 (kv := 1) (gLTs.junk (o := o) ⟨⟨g.1, gSg.uq g uq (by decide), gStx.gr g (by decide) (fun y hy => by cases hy) hysx, gScr.gr g (by decide) (fun y hy => by cases hy) scr⟩, hix2, gIm.gr g hJ (by decide) (by decide) him⟩) ⟨g.typ hJ tx rfl, g.typ hJ tm rfl, g.typ hJ to rfl⟩ ⟨a1, a2⟩ ⟨a3, a4⟩ ⟨a5, a6⟩ (by decide) R2.1 hls2 hR2 hS2
end LAWC
