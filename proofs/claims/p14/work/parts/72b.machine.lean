/-! ===== the law's helpers over the machine (by program) ===== -/
theorem gJ.junk {ty : Nat → Nat} {h : gH} {j : Nat} (hJ : gJ rT 1027 ty h) : gJ rT 1027 ty (gjunk j h) := by
  intro c r hc
  obtain ⟨x1, x2, x3, x4, x5, x6⟩ := hJ c r hc
  refine ⟨x1, ?_, ?_, x4, x5, x6⟩
  · show c < h.1 + j
    omega
  · show (if h.1 ≤ c ∧ c < h.1 + j then none else h.2.2.1 c) = _
    rw [if_neg (by omega)]
    exact x3
theorem gSg.junk {nk l : List Nat} {ty : Nat → Nat} {h : gH} {j : Nat} (hJ : gJ rT 1027 ty h) : gSg nk [] l ty h ty (gjunk j h) := by
  refine ⟨hJ.junk, Nat.le_add_right _ _, (fun x hx => by cases hx), fun _ => Or.inl rfl, fun c hc => ⟨?_, rfl, fun _ _ _ => rfl⟩⟩
  show (if h.1 ≤ c ∧ c < h.1 + j then none else h.2.2.1 c) = _
  rw [if_neg (by omega)]
theorem gLTs.junk {Ln : Int} {sc : Nat → Int} {ty : Nat → Nat} {x m o j : Nat} {ld lb iv iv2 : Int} {S S2 : gSS} {h : gH} (I : (gJ rT 1027 ty h ∧ gUq ty ∧ gStx ty h ∧ gScr ty Ln sc h) ∧ (gIx ty x ld lb iv2 S2 h ∧ gIm ty m iv S h)) : (gJ rT 1027 ty (gjunk j h) ∧ gUq ty ∧ gStx ty (gjunk j h) ∧ gScr ty Ln sc (gjunk j h)) ∧ (gIx ty x ld lb iv2 S2 (gjunk j h) ∧ gIm ty m iv S (gjunk j h)) := by
  obtain ⟨⟨hJ, uq, hyst, scr⟩, hix, him⟩ := I
  have g : gSg [] [] [] ty h ty (gjunk j h) := gSg.junk hJ
  exact ⟨⟨hJ.junk, uq, gStx.gr g (by decide) (fun y hy => by cases hy) hyst, gScr.gr g (by decide) (fun y hy => by cases hy) scr⟩, gIx.cg (fun _ _ _ => rfl) (fun _ _ _ => rfl) hix, gIm.gr g hJ (by decide) (by decide) him⟩
theorem gRo.same {k : Nat} {ld lb : Int} {h h2 : gH} {c0 u0 : Nat} (r : gRo k ld lb h c0 u0) (e1 : h2.1 = h.1) (e2 : h2.2.1 = h.2.1) : gRo k ld lb h2 c0 u0 := by
  unfold gRo at r ⊢
  rw [e1, e2]
  exact r
theorem gRo.junk {k : Nat} {ld lb ld1 lb1 : Int} {h hx : gH} {c0 u0 j : Nat} (r : gRo k ld lb h c0 u0) (hk : k ≤ 512) (g1 : h.1 ≤ hx.1) (g2 : h.2.1 ≤ hx.2.1) (e1 : 1024 * (((hx.1 : Int) - h.1) - 31 - 2 * (ld1 - ld)) ≤ lb1 - lb) (e2 : ((hx.2.1 : Int) - h.2.1) ≤ 4303 + 12480 * (ld1 - ld) + 2 * (lb1 - lb)) : gRo (k + 1) ld1 lb1 (gjunk j hx) (c0 + j - 1) (u0 - 6) ∧ (gjunk j hx).1 - (c0 + j - 1) = h.1 - c0 + (hx.1 - h.1 + 1) ∧ (gjunk j hx).2.1 - (u0 - 6) = h.2.1 - u0 + (hx.2.1 - h.2.1 + 6) := by
  obtain ⟨r1, r2, r3, r4, r5⟩ := r
  have a1 : (gjunk j hx).1 = hx.1 + j := rfl
  have a2 : (gjunk j hx).2.1 = hx.2.1 := rfl
  have b1 : (gjunk j hx).1 - (c0 + j - 1) = h.1 - c0 + (hx.1 - h.1 + 1) := by omega
  have b2 : (gjunk j hx).2.1 - (u0 - 6) = h.2.1 - u0 + (hx.2.1 - h.2.1 + 6) := by omega
  refine ⟨⟨by omega, by omega, ?_, ?_, by omega⟩, b1, b2⟩
  · rw [b1]
    push_cast
    omega
  · rw [b2]
    push_cast
    omega
section LAWH
variable {p : Program} {l : Launch} {e : Env} {s : State} {m : MethodId} {below : List Frame} {meth : Method} {c : Code} {b : Nat} {D : gD} {ad : Nat → Nat}
theorem lw_behind_add (C : gLC l p s m meth c b D ad) {Q : State → Prop} {Ln : Int} {sc : Nat → Int} {k : Nat} (NX : gNX p l e s m below meth c b D ad Q Ln sc k) (hk : 4 * (k : Int) + 4 ≤ Ln) (hk2 : k ≤ 512) {ty : Nat → Nat} {x mm o : Nat} {ld lb iv kv : Int} {S : gSS} {h : gH} {c0 u0 : Nat} {H : Heap} {locs : List Loc} {ls : Array Slot} (I9 : (gJ rT 1027 ty h ∧ gUq ty ∧ gStx ty h ∧ gScr ty Ln sc h) ∧ (gIx ty x ld lb iv S h ∧ gIm ty mm iv S h)) (T9 : ty x = 50 ∧ ty mm = 1 ∧ ty o = 90) (rld : 0 ≤ ld ∧ ld ≤ 192) (rlb : 1024 ≤ lb ∧ lb ≤ 1000000) (riv : 0 ≤ iv ∧ iv ≤ 26476544) (rkv : 0 ≤ kv ∧ kv ≤ 2) (R9 : gRo (k + 1) ld lb h c0 u0) (hls : gLs ad ls [some (.ref 2), some (.ref x), some (.ref mm), some (.ref o), some (.int (zi (4 * (k : Int)))), none, none, none]) (hR : gRp D gcl ad s.heap.size 1027 s h H) (hS : va_S (fun q => s.heap.size ≤ q) s.heap H locs) : W p l e room_1 s m #[Value.ref b] below meth c H locs (h.1 - c0) (h.2.1 - u0) Q (F0 m 115 ls [.int (zi kv)]) := by
  obtain ⟨⟨hJ, uq, hysx, scr⟩, hix, him⟩ := I9
  have hyst := hysx.1
  obtain ⟨tx, tm, to⟩ := T9
  refine gw_seg C (S := [.int (zi kv)]) (sg_of_add 20 (i := 4 * (k : Int)) hJ uq hyst scr tx tm to (by omega) iv riv kv rkv him) rfl (by decide) hls hR hS R9.1.1 R9.1.2 (fun r L' hF hg => ?_)
  obtain ⟨r1, r2, h2⟩ := r
  obtain ⟨g, him2, q1, q2, hw⟩ := hF
  dsimp only at q1 q2 hg
  subst q1
  subst q2
  have R2 := R9.same (h2 := h2) g.2.1 g.2.2.1
  exact ⟨R2.ok rld rlb, fun H' locs' ls' hls' hR' hS' => NX ty x mm o ld lb iv _ h2 c0 u0 H' locs' ls' ⟨⟨g.1, uq, gStx.fr g.2 (by decide) hysx, gScr.fr g.2 (by decide) scr⟩, ⟨tx, tm, to⟩, ⟨gIx.fr g.2 (by decide) hix, him2⟩, rld, rlb, riv⟩ R2 (hls'.wk hw) hR' hS'⟩
theorem lw_behind_sample (C : gLC l p s m meth c b D ad) {Q : State → Prop} {Ln : Int} {sc : Nat → Int} {k : Nat} (NX : gNX p l e s m below meth c b D ad Q Ln sc k) (hk : 4 * (k : Int) + 4 ≤ Ln) (hk2 : k ≤ 512) {ty : Nat → Nat} {x mm o : Nat} {ld lb iv kv : Int} {S : gSS} {h : gH} {c0 u0 : Nat} {H : Heap} {locs : List Loc} {ls : Array Slot} (I9 : (gJ rT 1027 ty h ∧ gUq ty ∧ gStx ty h ∧ gScr ty Ln sc h) ∧ (gIx ty x ld lb iv S h ∧ gIm ty mm iv S h)) (T9 : ty x = 50 ∧ ty mm = 1 ∧ ty o = 90) (rld : 0 ≤ ld ∧ ld ≤ 192) (rlb : 1024 ≤ lb ∧ lb ≤ 1000000) (riv : 0 ≤ iv ∧ iv ≤ 26476544) (rkv : 0 ≤ kv ∧ kv ≤ 2) (R9 : gRo (k + 1) ld lb h c0 u0) (hls : gLs ad ls [some (.ref 2), some (.ref x), some (.ref mm), some (.ref o), some (.int (zi (4 * (k : Int)))), none, none, none]) (hR : gRp D gcl ad s.heap.size 1027 s h H) (hS : va_S (fun q => s.heap.size ≤ q) s.heap H locs) : W p l e room_1 s m #[Value.ref b] below meth c H locs (h.1 - c0) (h.2.1 - u0) Q (F0 m 167 ls [.int (zi kv)]) := by
  obtain ⟨⟨hJ, uq, hysx, scr⟩, hix, him⟩ := I9
  have hyst := hysx.1
  obtain ⟨tx, tm, to⟩ := T9
  refine gw_seg C (S := [.int (zi kv)]) (sg_of_sample 20 (i := 4 * (k : Int)) hJ uq hyst scr tx tm to (by omega) iv riv kv rkv him) rfl (by decide) hls hR hS R9.1.1 R9.1.2 (fun r L' hF hg => ?_)
  obtain ⟨r1, r2, h2⟩ := r
  obtain ⟨g, him2, q1, q2, hw⟩ := hF
  dsimp only at q1 q2 hg
  subst q1
  subst q2
  have R2 := R9.same (h2 := h2) g.2.1 g.2.2.1
  exact ⟨R2.ok rld rlb, fun H' locs' ls' hls' hR' hS' => NX ty x mm o ld lb iv _ h2 c0 u0 H' locs' ls' ⟨⟨g.1, uq, gStx.fr g.2 (by decide) hysx, gScr.fr g.2 (by decide) scr⟩, ⟨tx, tm, to⟩, ⟨gIx.fr g.2 (by decide) hix, him2⟩, rld, rlb, riv⟩ R2 (hls'.wk hw) hR' hS'⟩
theorem lw_behind_coefficient (C : gLC l p s m meth c b D ad) {Q : State → Prop} {Ln : Int} {sc : Nat → Int} {k : Nat} (NX : gNX p l e s m below meth c b D ad Q Ln sc k) (hk : 4 * (k : Int) + 4 ≤ Ln) (hk2 : k ≤ 512) {ty : Nat → Nat} {x mm o : Nat} {ld lb iv kv : Int} {S : gSS} {h : gH} {c0 u0 : Nat} {H : Heap} {locs : List Loc} {ls : Array Slot} (I9 : (gJ rT 1027 ty h ∧ gUq ty ∧ gStx ty h ∧ gScr ty Ln sc h) ∧ (gIx ty x ld lb iv S h ∧ gIm ty mm iv S h)) (T9 : ty x = 50 ∧ ty mm = 1 ∧ ty o = 90) (rld : 0 ≤ ld ∧ ld ≤ 192) (rlb : 1024 ≤ lb ∧ lb ≤ 1000000) (riv : 0 ≤ iv ∧ iv ≤ 26476544) (rkv : 0 ≤ kv ∧ kv ≤ 2) (R9 : gRo (k + 1) ld lb h c0 u0) (hls : gLs ad ls [some (.ref 2), some (.ref x), some (.ref mm), some (.ref o), some (.int (zi (4 * (k : Int)))), none, none, none]) (hR : gRp D gcl ad s.heap.size 1027 s h H) (hS : va_S (fun q => s.heap.size ≤ q) s.heap H locs) : W p l e room_1 s m #[Value.ref b] below meth c H locs (h.1 - c0) (h.2.1 - u0) Q (F0 m 213 ls [.int (zi kv)]) := by
  obtain ⟨⟨hJ, uq, hysx, scr⟩, hix, him⟩ := I9
  have hyst := hysx.1
  obtain ⟨tx, tm, to⟩ := T9
  refine gw_seg C (S := [.int (zi kv)]) (sg_of_coefficient 20 (i := 4 * (k : Int)) hJ uq hyst scr tx tm to (by omega) iv riv kv rkv him) rfl (by decide) hls hR hS R9.1.1 R9.1.2 (fun r L' hF hg => ?_)
  obtain ⟨r1, r2, h2⟩ := r
  obtain ⟨g, him2, q1, q2, hw⟩ := hF
  dsimp only at q1 q2 hg
  subst q1
  subst q2
  have R2 := R9.same (h2 := h2) g.2.1 g.2.2.1
  exact ⟨R2.ok rld rlb, fun H' locs' ls' hls' hR' hS' => NX ty x mm o ld lb iv _ h2 c0 u0 H' locs' ls' ⟨⟨g.1, uq, gStx.fr g.2 (by decide) hysx, gScr.fr g.2 (by decide) scr⟩, ⟨tx, tm, to⟩, ⟨gIx.fr g.2 (by decide) hix, him2⟩, rld, rlb, riv⟩ R2 (hls'.wk hw) hR' hS'⟩
theorem lw_behind_exact (C : gLC l p s m meth c b D ad) {Q : State → Prop} {Ln : Int} {sc : Nat → Int} {k : Nat} (NX : gNX p l e s m below meth c b D ad Q Ln sc k) (hk : 4 * (k : Int) + 4 ≤ Ln) (hk2 : k ≤ 512) {ty : Nat → Nat} {x mm o : Nat} {ld lb iv kv : Int} {S : gSS} {h : gH} {c0 u0 : Nat} {H : Heap} {locs : List Loc} {ls : Array Slot} (I9 : (gJ rT 1027 ty h ∧ gUq ty ∧ gStx ty h ∧ gScr ty Ln sc h) ∧ (gIx ty x ld lb iv S h ∧ gIm ty mm iv S h)) (T9 : ty x = 50 ∧ ty mm = 1 ∧ ty o = 90) (rld : 0 ≤ ld ∧ ld ≤ 192) (rlb : 1024 ≤ lb ∧ lb ≤ 1000000) (riv : 0 ≤ iv ∧ iv ≤ 26476544) (rkv : 0 ≤ kv ∧ kv ≤ 2) (R9 : gRo (k + 1) ld lb h c0 u0) (hls : gLs ad ls [some (.ref 2), some (.ref x), some (.ref mm), some (.ref o), some (.int (zi (4 * (k : Int)))), none, none, none]) (hR : gRp D gcl ad s.heap.size 1027 s h H) (hS : va_S (fun q => s.heap.size ≤ q) s.heap H locs) : W p l e room_1 s m #[Value.ref b] below meth c H locs (h.1 - c0) (h.2.1 - u0) Q (F0 m 253 ls [.int (zi kv)]) := by
  obtain ⟨⟨hJ, uq, hysx, scr⟩, hix, him⟩ := I9
  have hyst := hysx.1
  obtain ⟨tx, tm, to⟩ := T9
  refine gw_seg C (S := [.int (zi kv)]) (sg_of_exact 20 (i := 4 * (k : Int)) hJ uq hyst scr tx tm to (by omega) iv riv kv rkv him) rfl (by decide) hls hR hS R9.1.1 R9.1.2 (fun r L' hF hg => ?_)
  obtain ⟨r1, r2, h2⟩ := r
  obtain ⟨g, him2, q1, q2, hw⟩ := hF
  dsimp only at q1 q2 hg
  subst q1
  subst q2
  have R2 := R9.same (h2 := h2) g.2.1 g.2.2.1
  exact ⟨R2.ok rld rlb, fun H' locs' ls' hls' hR' hS' => NX ty x mm o ld lb iv _ h2 c0 u0 H' locs' ls' ⟨⟨g.1, uq, gStx.fr g.2 (by decide) hysx, gScr.fr g.2 (by decide) scr⟩, ⟨tx, tm, to⟩, ⟨gIx.fr g.2 (by decide) hix, him2⟩, rld, rlb, riv⟩ R2 (hls'.wk hw) hR' hS'⟩
theorem lw_behind_told (C : gLC l p s m meth c b D ad) {Q : State → Prop} {Ln : Int} {sc : Nat → Int} {k : Nat} (NX : gNX p l e s m below meth c b D ad Q Ln sc k) (hk : 4 * (k : Int) + 4 ≤ Ln) (hk2 : k ≤ 512) {ty : Nat → Nat} {x mm o : Nat} {ld lb iv kv : Int} {S : gSS} {h : gH} {c0 u0 : Nat} {H : Heap} {locs : List Loc} {ls : Array Slot} (I9 : (gJ rT 1027 ty h ∧ gUq ty ∧ gStx ty h ∧ gScr ty Ln sc h) ∧ (gIx ty x ld lb iv S h ∧ gIm ty mm iv S h)) (T9 : ty x = 50 ∧ ty mm = 1 ∧ ty o = 90) (rld : 0 ≤ ld ∧ ld ≤ 192) (rlb : 1024 ≤ lb ∧ lb ≤ 1000000) (riv : 0 ≤ iv ∧ iv ≤ 26476544) (rkv : 0 ≤ kv ∧ kv ≤ 2) (R9 : gRo (k + 1) ld lb h c0 u0) (hls : gLs ad ls [some (.ref 2), some (.ref x), some (.ref mm), some (.ref o), some (.int (zi (4 * (k : Int)))), none, none, none]) (hR : gRp D gcl ad s.heap.size 1027 s h H) (hS : va_S (fun q => s.heap.size ≤ q) s.heap H locs) : W p l e room_1 s m #[Value.ref b] below meth c H locs (h.1 - c0) (h.2.1 - u0) Q (F0 m 293 ls [.int (zi kv)]) := by
  obtain ⟨⟨hJ, uq, hysx, scr⟩, hix, him⟩ := I9
  have hyst := hysx.1
  obtain ⟨tx, tm, to⟩ := T9
  refine gw_seg C (S := [.int (zi kv)]) (sg_of_told 20 (i := 4 * (k : Int)) hJ uq hyst scr tx tm to (by omega) iv riv kv rkv him) rfl (by decide) hls hR hS R9.1.1 R9.1.2 (fun r L' hF hg => ?_)
  obtain ⟨r1, r2, h2⟩ := r
  obtain ⟨g, him2, q1, q2, hw⟩ := hF
  dsimp only at q1 q2 hg
  subst q1
  subst q2
  have R2 := R9.same (h2 := h2) g.2.1 g.2.2.1
  exact ⟨R2.ok rld rlb, fun H' locs' ls' hls' hR' hS' => NX ty x mm o ld lb iv _ h2 c0 u0 H' locs' ls' ⟨⟨g.1, uq, gStx.fr g.2 (by decide) hysx, gScr.fr g.2 (by decide) scr⟩, ⟨tx, tm, to⟩, ⟨gIx.fr g.2 (by decide) hix, him2⟩, rld, rlb, riv⟩ R2 (hls'.wk hw) hR' hS'⟩
theorem lw_behind_table (C : gLC l p s m meth c b D ad) {Q : State → Prop} {Ln : Int} {sc : Nat → Int} {k : Nat} (NX : gNX p l e s m below meth c b D ad Q Ln sc k) (hk : 4 * (k : Int) + 4 ≤ Ln) (hk2 : k ≤ 512) {ty : Nat → Nat} {x mm o : Nat} {ld lb iv kv : Int} {S : gSS} {h : gH} {c0 u0 : Nat} {H : Heap} {locs : List Loc} {ls : Array Slot} (I9 : (gJ rT 1027 ty h ∧ gUq ty ∧ gStx ty h ∧ gScr ty Ln sc h) ∧ (gIx ty x ld lb iv (eQ0 S (sc (4 * (k : Int) + 1).toNat) (sc (4 * (k : Int) + 2).toNat) (sc (4 * (k : Int) + 3).toNat)) h ∧ gIm ty mm iv S h)) (T9 : ty x = 50 ∧ ty mm = 1 ∧ ty o = 90) (rld : 0 ≤ ld ∧ ld ≤ 192) (rlb : 1024 ≤ lb ∧ lb ≤ 1000000) (riv : 0 ≤ iv ∧ iv ≤ 26476544) (rkv : 0 ≤ kv ∧ kv ≤ 2) (R9 : gRo (k + 1) ld lb h c0 u0) (hls : gLs ad ls [some (.ref 2), some (.ref x), some (.ref mm), some (.ref o), some (.int (zi (4 * (k : Int)))), none, none, none]) (hR : gRp D gcl ad s.heap.size 1027 s h H) (hS : va_S (fun q => s.heap.size ≤ q) s.heap H locs) : W p l e room_1 s m #[Value.ref b] below meth c H locs (h.1 - c0) (h.2.1 - u0) Q (F0 m 339 ls [.int (zi kv)]) := by
  obtain ⟨⟨hJ, uq, hysx, scr⟩, hix, him⟩ := I9
  have hyst := hysx.1
  obtain ⟨tx, tm, to⟩ := T9
  refine gw_seg C (S := [.int (zi kv)]) (sg_of_table 20 (i := 4 * (k : Int)) hJ uq hyst scr tx tm to (by omega) iv riv kv rkv him) rfl (by decide) hls hR hS R9.1.1 R9.1.2 (fun r L' hF hg => ?_)
  obtain ⟨r1, r2, h2⟩ := r
  obtain ⟨g, him2, q1, q2, hw⟩ := hF
  dsimp only at q1 q2 hg
  subst q1
  subst q2
  have R2 := R9.same (h2 := h2) g.2.1 g.2.2.1
  exact ⟨R2.ok rld rlb, fun H' locs' ls' hls' hR' hS' => NX ty x mm o ld lb iv _ h2 c0 u0 H' locs' ls' ⟨⟨g.1, uq, gStx.fr g.2 (by decide) hysx, gScr.fr g.2 (by decide) scr⟩, ⟨tx, tm, to⟩, ⟨gIx.fr g.2 (by decide) hix, him2⟩, rld, rlb, riv⟩ R2 (hls'.wk hw) hR' hS'⟩
theorem lw_behind_point (C : gLC l p s m meth c b D ad) {Q : State → Prop} {Ln : Int} {sc : Nat → Int} {k : Nat} (NX : gNX p l e s m below meth c b D ad Q Ln sc k) (hk : 4 * (k : Int) + 4 ≤ Ln) (hk2 : k ≤ 512) {ty : Nat → Nat} {x mm o : Nat} {ld lb iv kv : Int} {S : gSS} {h : gH} {c0 u0 : Nat} {H : Heap} {locs : List Loc} {ls : Array Slot} {iv1 : Int} (riv1 : 0 ≤ iv1 ∧ iv1 ≤ 26476544) (hre : ((0 ≤ sc (4 * (k : Int) + 1).toNat ∧ sc (4 * (k : Int) + 1).toNat ≤ 31 ∧ 0 ≤ sc (4 * (k : Int) + 2).toNat ∧ sc (4 * (k : Int) + 2).toNat ≤ 31 ∧ 0 ≤ sc (4 * (k : Int) + 3).toNat ∧ sc (4 * (k : Int) + 3).toNat ≤ 255) → iv1 = iv + 64 * (if iv / 64 % 64 ≤ sc (4 * (k : Int) + 1).toNat then sc (4 * (k : Int) + 1).toNat + 1 - iv / 64 % 64 else 0) + 4096 * (if iv / 4096 % 64 ≤ sc (4 * (k : Int) + 2).toNat then sc (4 * (k : Int) + 2).toNat + 1 - iv / 4096 % 64 else 0)) ∧ (¬ (0 ≤ sc (4 * (k : Int) + 1).toNat ∧ sc (4 * (k : Int) + 1).toNat ≤ 31 ∧ 0 ≤ sc (4 * (k : Int) + 2).toNat ∧ sc (4 * (k : Int) + 2).toNat ≤ 31 ∧ 0 ≤ sc (4 * (k : Int) + 3).toNat ∧ sc (4 * (k : Int) + 3).toNat ≤ 255) → iv1 = iv)) (I9 : (gJ rT 1027 ty h ∧ gUq ty ∧ gStx ty h ∧ gScr ty Ln sc h) ∧ (gIx ty x ld lb iv1 (eQ1 S (sc (4 * (k : Int) + 1).toNat) (sc (4 * (k : Int) + 2).toNat) (sc (4 * (k : Int) + 3).toNat)) h ∧ gIm ty mm iv S h)) (T9 : ty x = 50 ∧ ty mm = 1 ∧ ty o = 90) (rld : 0 ≤ ld ∧ ld ≤ 192) (rlb : 1024 ≤ lb ∧ lb ≤ 1000000) (riv : 0 ≤ iv ∧ iv ≤ 26476544) (rkv : 0 ≤ kv ∧ kv ≤ 2) (R9 : gRo (k + 1) ld lb h c0 u0) (hls : gLs ad ls [some (.ref 2), some (.ref x), some (.ref mm), some (.ref o), some (.int (zi (4 * (k : Int)))), none, none, none]) (hR : gRp D gcl ad s.heap.size 1027 s h H) (hS : va_S (fun q => s.heap.size ≤ q) s.heap H locs) : W p l e room_1 s m #[Value.ref b] below meth c H locs (h.1 - c0) (h.2.1 - u0) Q (F0 m 391 ls [.int (zi kv)]) := by
  obtain ⟨⟨hJ, uq, hysx, scr⟩, hix, him⟩ := I9
  have hyst := hysx.1
  obtain ⟨tx, tm, to⟩ := T9
  refine gw_seg C (S := [.int (zi kv)]) (sg_of_point 20 (i := 4 * (k : Int)) hJ uq hyst scr tx tm to (by omega) iv riv iv1 riv1 kv rkv hre him) rfl (by decide) hls hR hS R9.1.1 R9.1.2 (fun r L' hF hg => ?_)
  obtain ⟨r1, r2, h2⟩ := r
  obtain ⟨g, him2, q1, q2, hw⟩ := hF
  dsimp only at q1 q2 hg
  subst q1
  subst q2
  have R2 := R9.same (h2 := h2) g.2.1 g.2.2.1
  exact ⟨R2.ok rld rlb, fun H' locs' ls' hls' hR' hS' => NX ty x mm o ld lb iv1 _ h2 c0 u0 H' locs' ls' ⟨⟨g.1, uq, gStx.fr g.2 (by decide) hysx, gScr.fr g.2 (by decide) scr⟩, ⟨tx, tm, to⟩, ⟨gIx.fr g.2 (by decide) hix, him2⟩, rld, rlb, riv1⟩ R2 (hls'.wk hw) hR' hS'⟩
theorem lw_behind_restart (C : gLC l p s m meth c b D ad) {Q : State → Prop} {Ln : Int} {sc : Nat → Int} {k : Nat} (NX : gNX p l e s m below meth c b D ad Q Ln sc k) (hk : 4 * (k : Int) + 4 ≤ Ln) (hk2 : k ≤ 512) {ty : Nat → Nat} {x mm o : Nat} {ld lb iv kv : Int} {S : gSS} {h : gH} {c0 u0 : Nat} {H : Heap} {locs : List Loc} {ls : Array Slot} {iv1 : Int} (riv1 : 0 ≤ iv1 ∧ iv1 ≤ 26476544) (hre : ((0 ≤ sc (4 * (k : Int) + 1).toNat ∧ sc (4 * (k : Int) + 1).toNat ≤ 100) → iv1 = iv % 262144 + 262144 * sc (4 * (k : Int) + 1).toNat) ∧ (¬ (0 ≤ sc (4 * (k : Int) + 1).toNat ∧ sc (4 * (k : Int) + 1).toNat ≤ 100) → iv1 = iv)) (I9 : (gJ rT 1027 ty h ∧ gUq ty ∧ gStx ty h ∧ gScr ty Ln sc h) ∧ (gIx ty x ld lb iv1 S h ∧ gIm ty mm iv S h)) (T9 : ty x = 50 ∧ ty mm = 1 ∧ ty o = 90) (rld : 0 ≤ ld ∧ ld ≤ 192) (rlb : 1024 ≤ lb ∧ lb ≤ 1000000) (riv : 0 ≤ iv ∧ iv ≤ 26476544) (rkv : 0 ≤ kv ∧ kv ≤ 2) (R9 : gRo (k + 1) ld lb h c0 u0) (hls : gLs ad ls [some (.ref 2), some (.ref x), some (.ref mm), some (.ref o), some (.int (zi (4 * (k : Int)))), none, none, none]) (hR : gRp D gcl ad s.heap.size 1027 s h H) (hS : va_S (fun q => s.heap.size ≤ q) s.heap H locs) : W p l e room_1 s m #[Value.ref b] below meth c H locs (h.1 - c0) (h.2.1 - u0) Q (F0 m 480 ls [.int (zi kv)]) := by
  obtain ⟨⟨hJ, uq, hysx, scr⟩, hix, him⟩ := I9
  have hyst := hysx.1
  obtain ⟨tx, tm, to⟩ := T9
  refine gw_seg C (S := [.int (zi kv)]) (sg_of_restart 20 (i := 4 * (k : Int)) hJ uq hyst scr tx tm to (by omega) iv riv iv1 riv1 kv rkv hre him) rfl (by decide) hls hR hS R9.1.1 R9.1.2 (fun r L' hF hg => ?_)
  obtain ⟨r1, r2, h2⟩ := r
  obtain ⟨g, him2, q1, q2, hw⟩ := hF
  dsimp only at q1 q2 hg
  subst q1
  subst q2
  have R2 := R9.same (h2 := h2) g.2.1 g.2.2.1
  exact ⟨R2.ok rld rlb, fun H' locs' ls' hls' hR' hS' => NX ty x mm o ld lb iv1 _ h2 c0 u0 H' locs' ls' ⟨⟨g.1, uq, gStx.fr g.2 (by decide) hysx, gScr.fr g.2 (by decide) scr⟩, ⟨tx, tm, to⟩, ⟨gIx.fr g.2 (by decide) hix, him2⟩, rld, rlb, riv1⟩ R2 (hls'.wk hw) hR' hS'⟩
theorem lw_behind_encode (C : gLC l p s m meth c b D ad) {Q : State → Prop} {Ln : Int} {sc : Nat → Int} {k : Nat} (NX : gNX p l e s m below meth c b D ad Q Ln sc k) (hk : 4 * (k : Int) + 4 ≤ Ln) (hk2 : k ≤ 512) {ty : Nat → Nat} {x mm o : Nat} {ld lb iv kv : Int} {S : gSS} {h : gH} {c0 u0 : Nat} {H : Heap} {locs : List Loc} {ls : Array Slot} {iv1 : Int} (riv1 : 0 ≤ iv1 ∧ iv1 ≤ 26476544) (hre : ((1 ≤ sc (4 * (k : Int) + 1).toNat ∧ sc (4 * (k : Int) + 1).toNat ≤ 100 ∧ 1 ≤ iv / 64 % 64) → iv1 = iv - iv % 64) ∧ (¬ (1 ≤ sc (4 * (k : Int) + 1).toNat ∧ sc (4 * (k : Int) + 1).toNat ≤ 100 ∧ 1 ≤ iv / 64 % 64) → iv1 = iv)) (I9 : (gJ rT 1027 ty h ∧ gUq ty ∧ gStx ty h ∧ gScr ty Ln sc h) ∧ (gIx ty x ld lb iv1 (eQ3 (sc (4 * (k : Int) + 1).toNat) (iv / 262144) (iv / 64 % 64) (iv / 4096 % 64) (iv % 64) S) h ∧ gIm ty mm iv S h)) (T9 : ty x = 50 ∧ ty mm = 1 ∧ ty o = 90) (rld : 0 ≤ ld ∧ ld ≤ 192) (rlb : 1024 ≤ lb ∧ lb ≤ 1000000) (riv : 0 ≤ iv ∧ iv ≤ 26476544) (rkv : 0 ≤ kv ∧ kv ≤ 2) (R9 : gRo (k + 1) ld lb h c0 u0) (hls : gLs ad ls [some (.ref 2), some (.ref x), some (.ref mm), some (.ref o), some (.int (zi (4 * (k : Int)))), none, none, none]) (hR : gRp D gcl ad s.heap.size 1027 s h H) (hS : va_S (fun q => s.heap.size ≤ q) s.heap H locs) : W p l e room_1 s m #[Value.ref b] below meth c H locs (h.1 - c0) (h.2.1 - u0) Q (F0 m 508 ls [.int (zi kv)]) := by
  obtain ⟨⟨hJ, uq, hysx, scr⟩, hix, him⟩ := I9
  have hyst := hysx.1
  obtain ⟨tx, tm, to⟩ := T9
  refine gw_seg C (S := [.int (zi kv)]) (sg_of_encode 20 (i := 4 * (k : Int)) hJ uq hyst scr tx tm to (by omega) iv riv iv1 riv1 kv rkv hre him) rfl (by decide) hls hR hS R9.1.1 R9.1.2 (fun r L' hF hg => ?_)
  obtain ⟨r1, r2, h2⟩ := r
  obtain ⟨g, him2, q1, q2, hw⟩ := hF
  dsimp only at q1 q2 hg
  subst q1
  subst q2
  have R2 := R9.same (h2 := h2) g.2.1 g.2.2.1
  exact ⟨R2.ok rld rlb, fun H' locs' ls' hls' hR' hS' => NX ty x mm o ld lb iv1 _ h2 c0 u0 H' locs' ls' ⟨⟨g.1, uq, gStx.fr g.2 (by decide) hysx, gScr.fr g.2 (by decide) scr⟩, ⟨tx, tm, to⟩, ⟨gIx.fr g.2 (by decide) hix, him2⟩, rld, rlb, riv1⟩ R2 (hls'.wk hw) hR' hS'⟩
theorem lw_behind_octet (C : gLC l p s m meth c b D ad) {Q : State → Prop} {Ln : Int} {sc : Nat → Int} {k : Nat} (NX : gNX p l e s m below meth c b D ad Q Ln sc k) (hk : 4 * (k : Int) + 4 ≤ Ln) (hk2 : k ≤ 512) {ty : Nat → Nat} {x mm o : Nat} {ld lb iv kv : Int} {S : gSS} {h : gH} {c0 u0 : Nat} {H : Heap} {locs : List Loc} {ls : Array Slot} (I9 : (gJ rT 1027 ty h ∧ gUq ty ∧ gStx ty h ∧ gScr ty Ln sc h) ∧ (gIx ty x ld lb iv S h ∧ gIm ty mm iv S h)) (T9 : ty x = 50 ∧ ty mm = 1 ∧ ty o = 90) (rld : 0 ≤ ld ∧ ld ≤ 192) (rlb : 1024 ≤ lb ∧ lb ≤ 1000000) (riv : 0 ≤ iv ∧ iv ≤ 26476544) (rkv : 0 ≤ kv ∧ kv ≤ 2) (R9 : gRo (k + 1) ld lb h c0 u0) (hls : gLs ad ls [some (.ref 2), some (.ref x), some (.ref mm), some (.ref o), some (.int (zi (4 * (k : Int)))), none, none, none]) (hR : gRp D gcl ad s.heap.size 1027 s h H) (hS : va_S (fun q => s.heap.size ≤ q) s.heap H locs) : W p l e room_1 s m #[Value.ref b] below meth c H locs (h.1 - c0) (h.2.1 - u0) Q (F0 m 536 ls [.int (zi kv)]) := by
  obtain ⟨⟨hJ, uq, hysx, scr⟩, hix, him⟩ := I9
  have hyst := hysx.1
  obtain ⟨tx, tm, to⟩ := T9
  refine gw_seg C (S := [.int (zi kv)]) (sg_of_octet 20 (i := 4 * (k : Int)) hJ uq hyst scr tx tm to (by omega) iv riv kv rkv him) rfl (by decide) hls hR hS R9.1.1 R9.1.2 (fun r L' hF hg => ?_)
  obtain ⟨r1, r2, h2⟩ := r
  obtain ⟨g, him2, q1, q2, hw⟩ := hF
  dsimp only at q1 q2 hg
  subst q1
  subst q2
  have R2 := R9.same (h2 := h2) g.2.1 g.2.2.1
  exact ⟨R2.ok rld rlb, fun H' locs' ls' hls' hR' hS' => NX ty x mm o ld lb iv _ h2 c0 u0 H' locs' ls' ⟨⟨g.1, uq, gStx.fr g.2 (by decide) hysx, gScr.fr g.2 (by decide) scr⟩, ⟨tx, tm, to⟩, ⟨gIx.fr g.2 (by decide) hix, him2⟩, rld, rlb, riv⟩ R2 (hls'.wk hw) hR' hS'⟩
theorem pb_add (d : Nat) {ty : Nat → Nat} {h : gH} (hJ : gJ rT 1027 ty h) (x : Nat) (tx : ty x = 50) (b : Int) (rb : (-128) ≤ b ∧ b ≤ 127) (S : gSS) (ld : Int) (rld : 0 ≤ ld ∧ ld ≤ 192) (lb : Int) (rlb : 1024 ≤ lb ∧ lb ≤ 1000000) (iv : Int) (riv : 0 ≤ iv ∧ iv ≤ 26476544) (uq : gUq ty) (hyix : gIx ty x ld lb iv S h) : gz gPP gGG gcn (d + 1) gt68 0 (gent [.ref x, .int (zi b)] 2) [] h (fun q _ => ∃ ty9 : Nat → Nat, gSg [] [] [51001, 52999] ty h ty9 q.2.2 ∧ ∃ ld1 lb1 iv1 : Int, gfin gt68 q.1 q.2.1 = some none ∧ 0 ≤ ld1 ∧ ld1 ≤ 192 ∧ 1024 ≤ lb1 ∧ lb1 ≤ 1000000 ∧ 0 ≤ iv1 ∧ iv1 ≤ 26476544 ∧ (iv1 = iv) ∧ (1024 * (((q.2.2.1 : Int) - h.1) - 31 - 2 * (ld1 - ld)) ≤ lb1 - lb) ∧ (((q.2.2.2.1 : Int) - h.2.1) ≤ 4303 + 12480 * (ld1 - ld) + 2 * (lb1 - lb)) ∧ (ld ≤ ld1) ∧ (lb ≤ lb1) ∧ (gIx ty9 x ld1 lb1 iv1 S q.2.2)) ∨ gz gPP gGG gcn (d + 1) gt68 0 (gent [.ref x, .int (zi b)] 2) [] h (fun q _ => ∃ ty9 : Nat → Nat, gSg [] [] [51001, 52999] ty h ty9 q.2.2 ∧ ∃ ld1 lb1 iv1 : Int, 0 ≤ ld1 ∧ ld1 ≤ 192 ∧ 1024 ≤ lb1 ∧ lb1 ≤ 1000000 ∧ 0 ≤ iv1 ∧ iv1 ≤ 26476544 ∧ (gIx ty9 x ld1 lb1 iv1 S q.2.2) ∧ q.2.1 = [] ∧ ((q.1 = 13)) ∧ (iv1 = iv) ∧ (1024 * (((q.2.2.1 : Int) - h.1) - 31 - 2 * (ld1 - ld)) ≤ lb1 - lb) ∧ (((q.2.2.2.1 : Int) - h.2.1) ≤ 4303 + 12480 * (ld1 - ld) + 2 * (lb1 - lb)) ∧ (ld ≤ ld1) ∧ (lb ≤ lb1)) := by
  refine gz_two (cl_DctFilter_add d hJ x tx b rb S ld rld lb rlb iv riv uq hyix) (fun q L9 hF => ?_)
  obtain ⟨ty9, g, ld1, lb1, iv1, a0, a1, a2, a3, a4, a5, hix2, hAB⟩ := hF
  rcases hAB with hA | hB
  · obtain ⟨gf, u0, u1, u2, u3, u4⟩ := hA
    exact Or.inl ⟨ty9, g, ld1, lb1, iv1, gf, a0, a1, a2, a3, a4, a5, u0, u1, u2, u3, u4, hix2⟩
  · exact Or.inr ⟨ty9, g, ld1, lb1, iv1, a0, a1, a2, a3, a4, a5, hix2, hB⟩
theorem pb_sample (d : Nat) {ty : Nat → Nat} {h : gH} (hJ : gJ rT 1027 ty h) (x : Nat) (tx : ty x = 50) (a : Int) (ra : (-2147483648) ≤ a ∧ a ≤ 2147483647) (b : Int) (rb : (-2147483648) ≤ b ∧ b ≤ 2147483647) (c : Int) (rc : (-2147483648) ≤ c ∧ c ≤ 2147483647) (hyst : gSta ty h) (S : gSS) (ld : Int) (rld : 0 ≤ ld ∧ ld ≤ 192) (lb : Int) (rlb : 1024 ≤ lb ∧ lb ≤ 1000000) (iv : Int) (riv : 0 ≤ iv ∧ iv ≤ 26476544) (uq : gUq ty) (hyix : gIx ty x ld lb iv S h) : gz gPP gGG gcn (d + 3) gt70 0 (gent [.ref x, .int (zi a), .int (zi b), .int (zi c)] 8) [] h (fun q _ => ∃ ty9 : Nat → Nat, gSg [] [] [] ty h ty9 q.2.2 ∧ ∃ z ld1 lb1 iv1 : Int, gfin gt70 q.1 q.2.1 = some (some (.int (zi z))) ∧ (-2147483648) ≤ z ∧ z ≤ 2147483647 ∧ 0 ≤ ld1 ∧ ld1 ≤ 192 ∧ 1024 ≤ lb1 ∧ lb1 ≤ 1000000 ∧ 0 ≤ iv1 ∧ iv1 ≤ 26476544 ∧ (iv1 = iv) ∧ (1024 * (((q.2.2.1 : Int) - h.1) - 31 - 2 * (ld1 - ld)) ≤ lb1 - lb) ∧ (((q.2.2.2.1 : Int) - h.2.1) ≤ 4303 + 12480 * (ld1 - ld) + 2 * (lb1 - lb)) ∧ (ld ≤ ld1) ∧ (lb ≤ lb1) ∧ (gIx ty9 x ld1 lb1 iv1 S q.2.2)) ∨ gz gPP gGG gcn (d + 3) gt70 0 (gent [.ref x, .int (zi a), .int (zi b), .int (zi c)] 8) [] h (fun q _ => ∃ ty9 : Nat → Nat, gSg [] [] [] ty h ty9 q.2.2 ∧ ∃ ld1 lb1 iv1 : Int, 0 ≤ ld1 ∧ ld1 ≤ 192 ∧ 1024 ≤ lb1 ∧ lb1 ≤ 1000000 ∧ 0 ≤ iv1 ∧ iv1 ≤ 26476544 ∧ (gIx ty9 x ld1 lb1 iv1 S q.2.2) ∧ q.2.1 = [] ∧ ((q.1 = 67)) ∧ (iv1 = iv) ∧ (1024 * (((q.2.2.1 : Int) - h.1) - 31 - 2 * (ld1 - ld)) ≤ lb1 - lb) ∧ (((q.2.2.2.1 : Int) - h.2.1) ≤ 4303 + 12480 * (ld1 - ld) + 2 * (lb1 - lb)) ∧ (ld ≤ ld1) ∧ (lb ≤ lb1)) := by
  refine gz_two (cl_DctFilter_sample d hJ x tx a ra b rb c rc hyst S ld rld lb rlb iv riv uq hyix) (fun q L9 hF => ?_)
  obtain ⟨ty9, g, ld1, lb1, iv1, a0, a1, a2, a3, a4, a5, hix2, hAB⟩ := hF
  rcases hAB with hA | hB
  · obtain ⟨z, gf, z1, z2, u0, u1, u2, u3, u4⟩ := hA
    exact Or.inl ⟨ty9, g, z, ld1, lb1, iv1, gf, z1, z2, a0, a1, a2, a3, a4, a5, u0, u1, u2, u3, u4, hix2⟩
  · exact Or.inr ⟨ty9, g, ld1, lb1, iv1, a0, a1, a2, a3, a4, a5, hix2, hB⟩
theorem pb_coefficient (d : Nat) {ty : Nat → Nat} {h : gH} (hJ : gJ rT 1027 ty h) (x : Nat) (tx : ty x = 50) (a : Int) (ra : (-2147483648) ≤ a ∧ a ≤ 2147483647) (b : Int) (rb : (-2147483648) ≤ b ∧ b ≤ 2147483647) (S : gSS) (ld : Int) (rld : 0 ≤ ld ∧ ld ≤ 192) (lb : Int) (rlb : 1024 ≤ lb ∧ lb ≤ 1000000) (iv : Int) (riv : 0 ≤ iv ∧ iv ≤ 26476544) (uq : gUq ty) (hyix : gIx ty x ld lb iv S h) : gz gPP gGG gcn (d + 0) gt79 0 (gent [.ref x, .int (zi a), .int (zi b)] 3) [] h (fun q _ => ∃ ty9 : Nat → Nat, gSg [] [] [] ty h ty9 q.2.2 ∧ ∃ z ld1 lb1 iv1 : Int, gfin gt79 q.1 q.2.1 = some (some (.int (zi z))) ∧ (-2147483648) ≤ z ∧ z ≤ 2147483647 ∧ 0 ≤ ld1 ∧ ld1 ≤ 192 ∧ 1024 ≤ lb1 ∧ lb1 ≤ 1000000 ∧ 0 ≤ iv1 ∧ iv1 ≤ 26476544 ∧ (iv1 = iv) ∧ (1024 * (((q.2.2.1 : Int) - h.1) - 31 - 2 * (ld1 - ld)) ≤ lb1 - lb) ∧ (((q.2.2.2.1 : Int) - h.2.1) ≤ 4303 + 12480 * (ld1 - ld) + 2 * (lb1 - lb)) ∧ (ld ≤ ld1) ∧ (lb ≤ lb1) ∧ (gIx ty9 x ld1 lb1 iv1 S q.2.2)) ∨ gz gPP gGG gcn (d + 0) gt79 0 (gent [.ref x, .int (zi a), .int (zi b)] 3) [] h (fun q _ => ∃ ty9 : Nat → Nat, gSg [] [] [] ty h ty9 q.2.2 ∧ ∃ ld1 lb1 iv1 : Int, 0 ≤ ld1 ∧ ld1 ≤ 192 ∧ 1024 ≤ lb1 ∧ lb1 ≤ 1000000 ∧ 0 ≤ iv1 ∧ iv1 ≤ 26476544 ∧ (gIx ty9 x ld1 lb1 iv1 S q.2.2) ∧ q.2.1 = [] ∧ ((q.1 = 25)) ∧ (iv1 = iv) ∧ (1024 * (((q.2.2.1 : Int) - h.1) - 31 - 2 * (ld1 - ld)) ≤ lb1 - lb) ∧ (((q.2.2.2.1 : Int) - h.2.1) ≤ 4303 + 12480 * (ld1 - ld) + 2 * (lb1 - lb)) ∧ (ld ≤ ld1) ∧ (lb ≤ lb1)) := by
  refine gz_two (cl_DctFilter_coefficient d hJ x tx a ra b rb S ld rld lb rlb iv riv uq hyix) (fun q L9 hF => ?_)
  obtain ⟨ty9, g, ld1, lb1, iv1, a0, a1, a2, a3, a4, a5, hix2, hAB⟩ := hF
  rcases hAB with hA | hB
  · obtain ⟨z, gf, z1, z2, u0, u1, u2, u3, u4⟩ := hA
    exact Or.inl ⟨ty9, g, z, ld1, lb1, iv1, gf, z1, z2, a0, a1, a2, a3, a4, a5, u0, u1, u2, u3, u4, hix2⟩
  · exact Or.inr ⟨ty9, g, ld1, lb1, iv1, a0, a1, a2, a3, a4, a5, hix2, hB⟩
theorem pb_exact (d : Nat) {ty : Nat → Nat} {h : gH} (hJ : gJ rT 1027 ty h) (x : Nat) (tx : ty x = 50) (a : Int) (ra : (-2147483648) ≤ a ∧ a ≤ 2147483647) (b : Int) (rb : (-2147483648) ≤ b ∧ b ≤ 2147483647) (hyst : gSta ty h) (S : gSS) (ld : Int) (rld : 0 ≤ ld ∧ ld ≤ 192) (lb : Int) (rlb : 1024 ≤ lb ∧ lb ≤ 1000000) (iv : Int) (riv : 0 ≤ iv ∧ iv ≤ 26476544) (uq : gUq ty) (hyix : gIx ty x ld lb iv S h) : gz gPP gGG gcn (d + 2) gt80 0 (gent [.ref x, .int (zi a), .int (zi b)] 3) [] h (fun q _ => ∃ ty9 : Nat → Nat, gSg [] [] [] ty h ty9 q.2.2 ∧ ∃ z ld1 lb1 iv1 : Int, gfin gt80 q.1 q.2.1 = some (some (.long (zl z))) ∧ (-9223372036854775808) ≤ z ∧ z ≤ 9223372036854775807 ∧ 0 ≤ ld1 ∧ ld1 ≤ 192 ∧ 1024 ≤ lb1 ∧ lb1 ≤ 1000000 ∧ 0 ≤ iv1 ∧ iv1 ≤ 26476544 ∧ (iv1 = iv) ∧ (1024 * (((q.2.2.1 : Int) - h.1) - 31 - 2 * (ld1 - ld)) ≤ lb1 - lb) ∧ (((q.2.2.2.1 : Int) - h.2.1) ≤ 4303 + 12480 * (ld1 - ld) + 2 * (lb1 - lb)) ∧ (ld ≤ ld1) ∧ (lb ≤ lb1) ∧ (gIx ty9 x ld1 lb1 iv1 S q.2.2)) ∨ gz gPP gGG gcn (d + 2) gt80 0 (gent [.ref x, .int (zi a), .int (zi b)] 3) [] h (fun q _ => ∃ ty9 : Nat → Nat, gSg [] [] [] ty h ty9 q.2.2 ∧ ∃ ld1 lb1 iv1 : Int, 0 ≤ ld1 ∧ ld1 ≤ 192 ∧ 1024 ≤ lb1 ∧ lb1 ≤ 1000000 ∧ 0 ≤ iv1 ∧ iv1 ≤ 26476544 ∧ (gIx ty9 x ld1 lb1 iv1 S q.2.2) ∧ q.2.1 = [] ∧ ((q.1 = 25)) ∧ (iv1 = iv) ∧ (1024 * (((q.2.2.1 : Int) - h.1) - 31 - 2 * (ld1 - ld)) ≤ lb1 - lb) ∧ (((q.2.2.2.1 : Int) - h.2.1) ≤ 4303 + 12480 * (ld1 - ld) + 2 * (lb1 - lb)) ∧ (ld ≤ ld1) ∧ (lb ≤ lb1)) := by
  refine gz_two (cl_DctFilter_exact d hJ x tx a ra b rb hyst S ld rld lb rlb iv riv uq hyix) (fun q L9 hF => ?_)
  obtain ⟨ty9, g, ld1, lb1, iv1, a0, a1, a2, a3, a4, a5, hix2, hAB⟩ := hF
  rcases hAB with hA | hB
  · obtain ⟨z, gf, z1, z2, u0, u1, u2, u3, u4⟩ := hA
    exact Or.inl ⟨ty9, g, z, ld1, lb1, iv1, gf, z1, z2, a0, a1, a2, a3, a4, a5, u0, u1, u2, u3, u4, hix2⟩
  · exact Or.inr ⟨ty9, g, ld1, lb1, iv1, a0, a1, a2, a3, a4, a5, hix2, hB⟩
theorem pb_told (d : Nat) {ty : Nat → Nat} {h : gH} (hJ : gJ rT 1027 ty h) (x : Nat) (tx : ty x = 50) (a : Int) (ra : (-2147483648) ≤ a ∧ a ≤ 2147483647) (b : Int) (rb : (-2147483648) ≤ b ∧ b ≤ 2147483647) (S : gSS) (ld : Int) (rld : 0 ≤ ld ∧ ld ≤ 192) (lb : Int) (rlb : 1024 ≤ lb ∧ lb ≤ 1000000) (iv : Int) (riv : 0 ≤ iv ∧ iv ≤ 26476544) (uq : gUq ty) (hyix : gIx ty x ld lb iv S h) : gz gPP gGG gcn (d + 2) gt81 0 (gent [.ref x, .int (zi a), .int (zi b)] 4) [] h (fun q _ => ∃ ty9 : Nat → Nat, gSg [] [] [] ty h ty9 q.2.2 ∧ ∃ z ld1 lb1 iv1 : Int, gfin gt81 q.1 q.2.1 = some (some (.int (zi z))) ∧ (-2147483648) ≤ z ∧ z ≤ 2147483647 ∧ 0 ≤ ld1 ∧ ld1 ≤ 192 ∧ 1024 ≤ lb1 ∧ lb1 ≤ 1000000 ∧ 0 ≤ iv1 ∧ iv1 ≤ 26476544 ∧ (iv1 = iv) ∧ (1024 * (((q.2.2.1 : Int) - h.1) - 31 - 2 * (ld1 - ld)) ≤ lb1 - lb) ∧ (((q.2.2.2.1 : Int) - h.2.1) ≤ 4303 + 12480 * (ld1 - ld) + 2 * (lb1 - lb)) ∧ (ld ≤ ld1) ∧ (lb ≤ lb1) ∧ (gIx ty9 x ld1 lb1 iv1 S q.2.2)) ∨ gz gPP gGG gcn (d + 2) gt81 0 (gent [.ref x, .int (zi a), .int (zi b)] 4) [] h (fun q _ => ∃ ty9 : Nat → Nat, gSg [] [] [] ty h ty9 q.2.2 ∧ ∃ ld1 lb1 iv1 : Int, 0 ≤ ld1 ∧ ld1 ≤ 192 ∧ 1024 ≤ lb1 ∧ lb1 ≤ 1000000 ∧ 0 ≤ iv1 ∧ iv1 ≤ 26476544 ∧ (gIx ty9 x ld1 lb1 iv1 S q.2.2) ∧ q.2.1 = [] ∧ ((q.1 = 36)) ∧ (iv1 = iv) ∧ (1024 * (((q.2.2.1 : Int) - h.1) - 31 - 2 * (ld1 - ld)) ≤ lb1 - lb) ∧ (((q.2.2.2.1 : Int) - h.2.1) ≤ 4303 + 12480 * (ld1 - ld) + 2 * (lb1 - lb)) ∧ (ld ≤ ld1) ∧ (lb ≤ lb1)) := by
  refine gz_two (cl_DctFilter_told d hJ x tx a ra b rb S ld rld lb rlb iv riv uq hyix) (fun q L9 hF => ?_)
  obtain ⟨ty9, g, ld1, lb1, iv1, a0, a1, a2, a3, a4, a5, hix2, hAB⟩ := hF
  rcases hAB with hA | hB
  · obtain ⟨z, gf, z1, z2, u0, u1, u2, u3, u4⟩ := hA
    exact Or.inl ⟨ty9, g, z, ld1, lb1, iv1, gf, z1, z2, a0, a1, a2, a3, a4, a5, u0, u1, u2, u3, u4, hix2⟩
  · exact Or.inr ⟨ty9, g, ld1, lb1, iv1, a0, a1, a2, a3, a4, a5, hix2, hB⟩
theorem pb_table (d : Nat) {ty : Nat → Nat} {h : gH} (hJ : gJ rT 1027 ty h) (x : Nat) (tx : ty x = 50) (a : Int) (ra : (-2147483648) ≤ a ∧ a ≤ 2147483647) (b : Int) (rb : (-2147483648) ≤ b ∧ b ≤ 2147483647) (v : Int) (rv : (-2147483648) ≤ v ∧ v ≤ 2147483647) (S : gSS) (ld : Int) (rld : 0 ≤ ld ∧ ld ≤ 192) (lb : Int) (rlb : 1024 ≤ lb ∧ lb ≤ 1000000) (iv : Int) (riv : 0 ≤ iv ∧ iv ≤ 26476544) (uq : gUq ty) (hyix : gIx ty x ld lb iv S h) : gz gPP gGG gcn (d + 0) gt85 0 (gent [.ref x, .int (zi a), .int (zi b), .int (zi v)] 5) [] h (fun q _ => ∃ ty9 : Nat → Nat, gSg [] [] [53999] ty h ty9 q.2.2 ∧ ∃ z ld1 lb1 iv1 : Int, gfin gt85 q.1 q.2.1 = some (some (.int (zi z))) ∧ 0 ≤ z ∧ z ≤ 255 ∧ 0 ≤ ld1 ∧ ld1 ≤ 192 ∧ 1024 ≤ lb1 ∧ lb1 ≤ 1000000 ∧ 0 ≤ iv1 ∧ iv1 ≤ 26476544 ∧ (z = S.1.1 (a * 64 + b).toNat) ∧ (0 ≤ a) ∧ (a ≤ 3) ∧ (0 ≤ b) ∧ (b ≤ 63) ∧ (v = -1 ∨ (1 ≤ v ∧ v ≤ 255)) ∧ (iv1 = iv) ∧ (1024 * (((q.2.2.1 : Int) - h.1) - 31 - 2 * (ld1 - ld)) ≤ lb1 - lb) ∧ (((q.2.2.2.1 : Int) - h.2.1) ≤ 4303 + 12480 * (ld1 - ld) + 2 * (lb1 - lb)) ∧ (ld ≤ ld1) ∧ (lb ≤ lb1) ∧ (gIx ty9 x ld1 lb1 iv1 (eQ0 S a b v) q.2.2)) ∨ gz gPP gGG gcn (d + 0) gt85 0 (gent [.ref x, .int (zi a), .int (zi b), .int (zi v)] 5) [] h (fun q _ => ∃ ty9 : Nat → Nat, gSg [] [] [53999] ty h ty9 q.2.2 ∧ ∃ ld1 lb1 iv1 : Int, 0 ≤ ld1 ∧ ld1 ≤ 192 ∧ 1024 ≤ lb1 ∧ lb1 ≤ 1000000 ∧ 0 ≤ iv1 ∧ iv1 ≤ 26476544 ∧ (gIx ty9 x ld1 lb1 iv1 (eQ0 S a b v) q.2.2) ∧ q.2.1 = [] ∧ ((q.1 = 19 ∧ (¬ (0 ≤ a ∧ a ≤ 3 ∧ 0 ≤ b ∧ b ≤ 63))) ∨ (q.1 = 46 ∧ (0 ≤ a) ∧ (a ≤ 3) ∧ (0 ≤ b) ∧ (b ≤ 63) ∧ (¬ (v = -1 ∨ (1 ≤ v ∧ v ≤ 255))))) ∧ (iv1 = iv) ∧ (1024 * (((q.2.2.1 : Int) - h.1) - 31 - 2 * (ld1 - ld)) ≤ lb1 - lb) ∧ (((q.2.2.2.1 : Int) - h.2.1) ≤ 4303 + 12480 * (ld1 - ld) + 2 * (lb1 - lb)) ∧ (ld ≤ ld1) ∧ (lb ≤ lb1)) := by
  refine gz_two (cl_DctFilter_table d hJ x tx a ra b rb v rv S ld rld lb rlb iv riv uq hyix) (fun q L9 hF => ?_)
  obtain ⟨ty9, g, ld1, lb1, iv1, a0, a1, a2, a3, a4, a5, hix2, hAB⟩ := hF
  rcases hAB with hA | hB
  · obtain ⟨z, gf, z1, z2, u0, u1, u2, u3, u4, u5, u6, u7, u8, u9, u10⟩ := hA
    exact Or.inl ⟨ty9, g, z, ld1, lb1, iv1, gf, z1, z2, a0, a1, a2, a3, a4, a5, u0, u1, u2, u3, u4, u5, u6, u7, u8, u9, u10, hix2⟩
  · exact Or.inr ⟨ty9, g, ld1, lb1, iv1, a0, a1, a2, a3, a4, a5, hix2, hB⟩
theorem pb_point (d : Nat) {ty : Nat → Nat} {h : gH} (hJ : gJ rT 1027 ty h) (x : Nat) (tx : ty x = 50) (a : Int) (ra : (-2147483648) ≤ a ∧ a ≤ 2147483647) (b : Int) (rb : (-2147483648) ≤ b ∧ b ≤ 2147483647) (v : Int) (rv : (-2147483648) ≤ v ∧ v ≤ 2147483647) (S : gSS) (ld : Int) (rld : 0 ≤ ld ∧ ld ≤ 192) (lb : Int) (rlb : 1024 ≤ lb ∧ lb ≤ 1000000) (iv : Int) (riv : 0 ≤ iv ∧ iv ≤ 26476544) (uq : gUq ty) (hyix : gIx ty x ld lb iv S h) : gz gPP gGG gcn (d + 2) gt86 0 (gent [.ref x, .int (zi a), .int (zi b), .int (zi v)] 4) [] h (fun q _ => ∃ ty9 : Nat → Nat, gSg [] [] [55001, 55002, 59999] ty h ty9 q.2.2 ∧ ∃ z ld1 lb1 iv1 : Int, gfin gt86 q.1 q.2.1 = some (some (.int (zi z))) ∧ 0 ≤ z ∧ z ≤ 255 ∧ 0 ≤ ld1 ∧ ld1 ≤ 192 ∧ 1024 ≤ lb1 ∧ lb1 ≤ 1000000 ∧ 0 ≤ iv1 ∧ iv1 ≤ 26476544 ∧ (z = S.1.2.1 (b * 32 + a).toNat) ∧ (0 ≤ a) ∧ (a ≤ 31) ∧ (0 ≤ b) ∧ (b ≤ 31) ∧ (0 ≤ v) ∧ (v ≤ 255) ∧ (iv1 = iv + 64 * (if iv / 64 % 64 ≤ a then a + 1 - iv / 64 % 64 else 0) + 4096 * (if iv / 4096 % 64 ≤ b then b + 1 - iv / 4096 % 64 else 0)) ∧ (1024 * (((q.2.2.1 : Int) - h.1) - 31 - 2 * (ld1 - ld)) ≤ lb1 - lb) ∧ (((q.2.2.2.1 : Int) - h.2.1) ≤ 4303 + 12480 * (ld1 - ld) + 2 * (lb1 - lb)) ∧ (ld ≤ ld1) ∧ (lb ≤ lb1) ∧ (gIx ty9 x ld1 lb1 iv1 (eQ1 S a b v) q.2.2)) ∨ gz gPP gGG gcn (d + 2) gt86 0 (gent [.ref x, .int (zi a), .int (zi b), .int (zi v)] 4) [] h (fun q _ => ∃ ty9 : Nat → Nat, gSg [] [] [55001, 55002, 59999] ty h ty9 q.2.2 ∧ ∃ ld1 lb1 iv1 : Int, 0 ≤ ld1 ∧ ld1 ≤ 192 ∧ 1024 ≤ lb1 ∧ lb1 ≤ 1000000 ∧ 0 ≤ iv1 ∧ iv1 ≤ 26476544 ∧ (gIx ty9 x ld1 lb1 iv1 (eQ1 S a b v) q.2.2) ∧ q.2.1 = [] ∧ ((q.1 = 20 ∧ (¬ (0 ≤ a ∧ a ≤ 31 ∧ 0 ≤ b ∧ b ≤ 31))) ∨ (q.1 = 41 ∧ (0 ≤ a) ∧ (a ≤ 31) ∧ (0 ≤ b) ∧ (b ≤ 31) ∧ (¬ (0 ≤ v ∧ v ≤ 255)))) ∧ (iv1 = iv) ∧ (1024 * (((q.2.2.1 : Int) - h.1) - 31 - 2 * (ld1 - ld)) ≤ lb1 - lb) ∧ (((q.2.2.2.1 : Int) - h.2.1) ≤ 4303 + 12480 * (ld1 - ld) + 2 * (lb1 - lb)) ∧ (ld ≤ ld1) ∧ (lb ≤ lb1)) := by
  refine gz_two (cl_DctFilter_point d hJ x tx a ra b rb v rv S ld rld lb rlb iv riv uq hyix) (fun q L9 hF => ?_)
  obtain ⟨ty9, g, ld1, lb1, iv1, a0, a1, a2, a3, a4, a5, hix2, hAB⟩ := hF
  rcases hAB with hA | hB
  · obtain ⟨z, gf, z1, z2, u0, u1, u2, u3, u4, u5, u6, u7, u8, u9, u10, u11⟩ := hA
    exact Or.inl ⟨ty9, g, z, ld1, lb1, iv1, gf, z1, z2, a0, a1, a2, a3, a4, a5, u0, u1, u2, u3, u4, u5, u6, u7, u8, u9, u10, u11, hix2⟩
  · exact Or.inr ⟨ty9, g, ld1, lb1, iv1, a0, a1, a2, a3, a4, a5, hix2, hB⟩
theorem pb_restart (d : Nat) {ty : Nat → Nat} {h : gH} (hJ : gJ rT 1027 ty h) (x : Nat) (tx : ty x = 50) (n : Int) (rn : (-2147483648) ≤ n ∧ n ≤ 2147483647) (S : gSS) (ld : Int) (rld : 0 ≤ ld ∧ ld ≤ 192) (lb : Int) (rlb : 1024 ≤ lb ∧ lb ≤ 1000000) (iv : Int) (riv : 0 ≤ iv ∧ iv ≤ 26476544) (uq : gUq ty) (hyix : gIx ty x ld lb iv S h) : gz gPP gGG gcn (d + 0) gt88 0 (gent [.ref x, .int (zi n)] 3) [] h (fun q _ => ∃ ty9 : Nat → Nat, gSg [] [] [55003] ty h ty9 q.2.2 ∧ ∃ z ld1 lb1 iv1 : Int, gfin gt88 q.1 q.2.1 = some (some (.int (zi z))) ∧ 0 ≤ z ∧ z ≤ 100 ∧ 0 ≤ ld1 ∧ ld1 ≤ 192 ∧ 1024 ≤ lb1 ∧ lb1 ≤ 1000000 ∧ 0 ≤ iv1 ∧ iv1 ≤ 26476544 ∧ (0 ≤ n) ∧ (n ≤ 100) ∧ (z = iv / 262144) ∧ (iv1 = iv % 262144 + 262144 * n) ∧ (1024 * (((q.2.2.1 : Int) - h.1) - 31 - 2 * (ld1 - ld)) ≤ lb1 - lb) ∧ (((q.2.2.2.1 : Int) - h.2.1) ≤ 4303 + 12480 * (ld1 - ld) + 2 * (lb1 - lb)) ∧ (ld ≤ ld1) ∧ (lb ≤ lb1) ∧ (gIx ty9 x ld1 lb1 iv1 S q.2.2)) ∨ gz gPP gGG gcn (d + 0) gt88 0 (gent [.ref x, .int (zi n)] 3) [] h (fun q _ => ∃ ty9 : Nat → Nat, gSg [] [] [55003] ty h ty9 q.2.2 ∧ ∃ ld1 lb1 iv1 : Int, 0 ≤ ld1 ∧ ld1 ≤ 192 ∧ 1024 ≤ lb1 ∧ lb1 ≤ 1000000 ∧ 0 ≤ iv1 ∧ iv1 ≤ 26476544 ∧ (gIx ty9 x ld1 lb1 iv1 S q.2.2) ∧ q.2.1 = [] ∧ ((q.1 = 10 ∧ (¬ (0 ≤ n ∧ n ≤ 100)))) ∧ (iv1 = iv) ∧ (1024 * (((q.2.2.1 : Int) - h.1) - 31 - 2 * (ld1 - ld)) ≤ lb1 - lb) ∧ (((q.2.2.2.1 : Int) - h.2.1) ≤ 4303 + 12480 * (ld1 - ld) + 2 * (lb1 - lb)) ∧ (ld ≤ ld1) ∧ (lb ≤ lb1)) := by
  refine gz_two (cl_DctFilter_restart d hJ x tx n rn S ld rld lb rlb iv riv uq hyix) (fun q L9 hF => ?_)
  obtain ⟨ty9, g, ld1, lb1, iv1, a0, a1, a2, a3, a4, a5, hix2, hAB⟩ := hF
  rcases hAB with hA | hB
  · obtain ⟨z, gf, z1, z2, u0, u1, u2, u3, u4, u5, u6, u7⟩ := hA
    exact Or.inl ⟨ty9, g, z, ld1, lb1, iv1, gf, z1, z2, a0, a1, a2, a3, a4, a5, u0, u1, u2, u3, u4, u5, u6, u7, hix2⟩
  · exact Or.inr ⟨ty9, g, ld1, lb1, iv1, a0, a1, a2, a3, a4, a5, hix2, hB⟩
theorem pb_encode (d : Nat) {ty : Nat → Nat} {h : gH} (hJ : gJ rT 1027 ty h) (x : Nat) (tx : ty x = 50) (qu : Int) (rqu : (-2147483648) ≤ qu ∧ qu ≤ 2147483647) (hyst : gSta ty h) (S : gSS) (ld : Int) (rld : 0 ≤ ld ∧ ld ≤ 192) (lb : Int) (rlb : 1024 ≤ lb ∧ lb ≤ 1000000) (iv : Int) (riv : 0 ≤ iv ∧ iv ≤ 26476544) (uq : gUq ty) (hyix : gIx ty x ld lb iv S h) (hysx : gStx ty h) : gz gPP gGG gcn (d + 8) gt89 0 (gent [.ref x, .int (zi qu)] 3) [] h (fun q _ => ∃ ty9 : Nat → Nat, gSg [71, 72, 73, 74, 75, 76, 77, 78, 79, 80, 81, 85, 91, 92, 93, 94, 95, 96, 97, 98, 99, 114, 200] [] [50006, 55008, 56000, 56001, 56002, 56003, 64999, 71005, 71006, 71007, 71008, 71009, 71010, 71011, 71012, 71013, 71014, 72999, 73999, 74999, 76999, 77999, 78999, 79999, 80999, 81999, 85999, 91004, 91008, 92004, 92008, 93999, 94999, 95999, 96999, 97999, 98999, 99999, 114999] ty h ty9 q.2.2 ∧ ∃ z ld1 lb1 iv1 : Int, gfin gt89 q.1 q.2.1 = some (some (.int (zi z))) ∧ (-2147483648) ≤ z ∧ z ≤ 2147483647 ∧ 0 ≤ ld1 ∧ ld1 ≤ 192 ∧ 1024 ≤ lb1 ∧ lb1 ≤ 1000000 ∧ 0 ≤ iv1 ∧ iv1 ≤ 26476544 ∧ (1 ≤ qu) ∧ (qu ≤ 100) ∧ (1 ≤ iv / 64 % 64) ∧ (iv1 = iv - iv % 64) ∧ (z = (eNn qu (iv / 262144) (iv / 64 % 64) (iv / 4096 % 64) (iv % 64) S).1) ∧ (1024 * (((q.2.2.1 : Int) - h.1) - 31 - 2 * (ld1 - ld)) ≤ lb1 - lb) ∧ (((q.2.2.2.1 : Int) - h.2.1) ≤ 4303 + 12480 * (ld1 - ld) + 2 * (lb1 - lb)) ∧ (ld ≤ ld1) ∧ (lb ≤ lb1) ∧ (gIx ty9 x ld1 lb1 iv1 (eQ3 qu (iv / 262144) (iv / 64 % 64) (iv / 4096 % 64) (iv % 64) S) q.2.2) ∧ gUq ty9) ∨ gz gPP gGG gcn (d + 8) gt89 0 (gent [.ref x, .int (zi qu)] 3) [] h (fun q _ => ∃ ty9 : Nat → Nat, gSg [71, 72, 73, 74, 75, 76, 77, 78, 79, 80, 81, 85, 91, 92, 93, 94, 95, 96, 97, 98, 99, 114, 200] [] [50006, 55008, 56000, 56001, 56002, 56003, 64999, 71005, 71006, 71007, 71008, 71009, 71010, 71011, 71012, 71013, 71014, 72999, 73999, 74999, 76999, 77999, 78999, 79999, 80999, 81999, 85999, 91004, 91008, 92004, 92008, 93999, 94999, 95999, 96999, 97999, 98999, 99999, 114999] ty h ty9 q.2.2 ∧ ∃ ld1 lb1 iv1 : Int, 0 ≤ ld1 ∧ ld1 ≤ 192 ∧ 1024 ≤ lb1 ∧ lb1 ≤ 1000000 ∧ 0 ≤ iv1 ∧ iv1 ≤ 26476544 ∧ (gIx ty9 x ld1 lb1 iv1 (eQ3 qu (iv / 262144) (iv / 64 % 64) (iv / 4096 % 64) (iv % 64) S) q.2.2) ∧ gUq ty9 ∧ q.2.1 = [] ∧ ((q.1 = 11 ∧ (¬ (1 ≤ qu ∧ qu ≤ 100))) ∨ (q.1 = 32 ∧ (1 ≤ qu) ∧ (qu ≤ 100) ∧ (iv / 64 % 64 = 0))) ∧ (iv1 = iv) ∧ (1024 * (((q.2.2.1 : Int) - h.1) - 31 - 2 * (ld1 - ld)) ≤ lb1 - lb) ∧ (((q.2.2.2.1 : Int) - h.2.1) ≤ 4303 + 12480 * (ld1 - ld) + 2 * (lb1 - lb)) ∧ (ld ≤ ld1) ∧ (lb ≤ lb1)) := by
  refine gz_two (cl_DctFilter_encode d hJ x tx qu rqu hyst S ld rld lb rlb iv riv uq hyix hysx) (fun q L9 hF => ?_)
  obtain ⟨ty9, g, ld1, lb1, iv1, a0, a1, a2, a3, a4, a5, hix2, uq2, hAB⟩ := hF
  rcases hAB with hA | hB
  · obtain ⟨z, gf, z1, z2, u0, u1, u2, u3, u4, u5, u6, u7, u8⟩ := hA
    exact Or.inl ⟨ty9, g, z, ld1, lb1, iv1, gf, z1, z2, a0, a1, a2, a3, a4, a5, u0, u1, u2, u3, u4, u5, u6, u7, u8, hix2, uq2⟩
  · exact Or.inr ⟨ty9, g, ld1, lb1, iv1, a0, a1, a2, a3, a4, a5, hix2, uq2, hB⟩
theorem pb_octet (d : Nat) {ty : Nat → Nat} {h : gH} (hJ : gJ rT 1027 ty h) (x : Nat) (tx : ty x = 50) (i : Int) (ri : (-2147483648) ≤ i ∧ i ≤ 2147483647) (S : gSS) (ld : Int) (rld : 0 ≤ ld ∧ ld ≤ 192) (lb : Int) (rlb : 1024 ≤ lb ∧ lb ≤ 1000000) (iv : Int) (riv : 0 ≤ iv ∧ iv ≤ 26476544) (uq : gUq ty) (hyix : gIx ty x ld lb iv S h) : gz gPP gGG gcn (d + 0) gt129 0 (gent [.ref x, .int (zi i)] 2) [] h (fun q _ => ∃ ty9 : Nat → Nat, gSg [] [] [] ty h ty9 q.2.2 ∧ ∃ z ld1 lb1 iv1 : Int, gfin gt129 q.1 q.2.1 = some (some (.int (zi z))) ∧ (-128) ≤ z ∧ z ≤ 127 ∧ 0 ≤ ld1 ∧ ld1 ≤ 192 ∧ 1024 ≤ lb1 ∧ lb1 ≤ 1000000 ∧ 0 ≤ iv1 ∧ iv1 ≤ 26476544 ∧ (0 ≤ i) ∧ (i < S.2.1) ∧ (z = eeS (S.2.2.2.2 i.toNat)) ∧ (iv1 = iv) ∧ (1024 * (((q.2.2.1 : Int) - h.1) - 31 - 2 * (ld1 - ld)) ≤ lb1 - lb) ∧ (((q.2.2.2.1 : Int) - h.2.1) ≤ 4303 + 12480 * (ld1 - ld) + 2 * (lb1 - lb)) ∧ (ld ≤ ld1) ∧ (lb ≤ lb1) ∧ (gIx ty9 x ld1 lb1 iv1 S q.2.2)) ∨ gz gPP gGG gcn (d + 0) gt129 0 (gent [.ref x, .int (zi i)] 2) [] h (fun q _ => ∃ ty9 : Nat → Nat, gSg [] [] [] ty h ty9 q.2.2 ∧ ∃ ld1 lb1 iv1 : Int, 0 ≤ ld1 ∧ ld1 ≤ 192 ∧ 1024 ≤ lb1 ∧ lb1 ≤ 1000000 ∧ 0 ≤ iv1 ∧ iv1 ≤ 26476544 ∧ (gIx ty9 x ld1 lb1 iv1 S q.2.2) ∧ q.2.1 = [] ∧ ((q.1 = 15 ∧ (¬ (0 ≤ i ∧ i < S.2.1)))) ∧ (iv1 = iv) ∧ (1024 * (((q.2.2.1 : Int) - h.1) - 31 - 2 * (ld1 - ld)) ≤ lb1 - lb) ∧ (((q.2.2.2.1 : Int) - h.2.1) ≤ 4303 + 12480 * (ld1 - ld) + 2 * (lb1 - lb)) ∧ (ld ≤ ld1) ∧ (lb ≤ lb1)) := by
  refine gz_two (cl_DctFilter_octet d hJ x tx i ri S ld rld lb rlb iv riv uq hyix) (fun q L9 hF => ?_)
  obtain ⟨ty9, g, ld1, lb1, iv1, a0, a1, a2, a3, a4, a5, hix2, hAB⟩ := hF
  rcases hAB with hA | hB
  · obtain ⟨z, gf, z1, z2, u0, u1, u2, u3, u4, u5, u6, u7⟩ := hA
    exact Or.inl ⟨ty9, g, z, ld1, lb1, iv1, gf, z1, z2, a0, a1, a2, a3, a4, a5, u0, u1, u2, u3, u4, u5, u6, u7, hix2⟩
  · exact Or.inr ⟨ty9, g, ld1, lb1, iv1, a0, a1, a2, a3, a4, a5, hix2, hB⟩
end LAWH
