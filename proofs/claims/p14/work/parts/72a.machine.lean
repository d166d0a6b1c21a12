/-! ===== the law over the machine (by program) ===== -/
def gVV : gV := ([("DctFilter", 53, "there are 2,000 bytes"), ("DctFilter", 86, "no such sample"), ("DctFilter", 110, "no such coefficient"), ("DctFilter", 116, "no such point"), ("DctFilter", 122, "nothing is told of that"), ("DctFilter", 132, "no such number of a table"), ("DctFilter", 136, "a number is 1 .. 255, or -1"), ("DctFilter", 139, "no such point of the canvas"), ("DctFilter", 141, "a point is 0 .. 255"), ("DctFilter", 149, "an interval is 0 .. 100"), ("DctFilter", 154, "a quality is 1 .. 100"), ("DctFilter", 159, "no point was put"), ("DctFilter", 206, "no such byte was written")], [("java/lang/ArrayIndexOutOfBoundsException", "java/lang/ArrayIndexOutOfBoundsException"), ("java/lang/IllegalArgumentException", "java/lang/IllegalArgumentException"), ("java/lang/IllegalStateException", "java/lang/IllegalStateException"), ("java/lang/IndexOutOfBoundsException", "java/lang/IndexOutOfBoundsException"), ("java/lang/UnsupportedOperationException", "java/lang/UnsupportedOperationException")], [("java/lang/IllegalArgumentException", "java/lang/IndexOutOfBoundsException"), ("java/lang/IllegalStateException", "java/lang/IllegalArgumentException")], [⟨"java/lang/RuntimeException", "<init>", "(Ljava/lang/String;)V"⟩, ⟨"java/lang/Exception", "<init>", "(Ljava/lang/String;)V"⟩, ⟨"java/lang/Throwable", "<init>", "(Ljava/lang/String;)V"⟩, ⟨"java/lang/IndexOutOfBoundsException", "<init>", "(Ljava/lang/String;)V"⟩])
def gLC (l : Launch) (p : Program) (s : State) (m : MethodId) (meth : Method) (c : Code) (b : Nat) (D : gD) (ad : Nat → Nat) : Prop :=
  (p.tables.exec = Jvm.exec ∧ c.code = code ∧ c.maxLocals = 8 ∧ (∀ w ∈ gGT, w.before #[Value.ref b] s = true) ∧ s.vm.findClass "DctFilterLaw" = some m.cls ∧ meth.name = "law" ∧ meth.sig.returnType = ret ∧ meth.locks = false) ∧ gU D gcl gGG ad s.heap.size gXX s ∧ gUX s.heap.size gVV s ∧ gAd ad s.heap.size 1027 ∧ l.stackTraces = false
theorem gLs.wk {ad : Nat → Nat} {ls : Array Slot} {A B : gL} (h : gLs ad ls B) (w : gLw A B) : gLs ad ls A := ⟨h.1.trans w.1, h.2.1, fun i v hi => h.2.2 i v (w.2 i v hi)⟩
/-- the state between two turns -/
def gLTs (Ln : Int) (sc : Nat → Int) (ty : Nat → Nat) (x m o : Nat) (ld lb iv : Int) (S : gSS) (h : gH) : Prop := (gJ rT 1027 ty h ∧ gUq ty ∧ gStx ty h ∧ gScr ty Ln sc h) ∧ (ty x = 50 ∧ ty m = 1 ∧ ty o = 90) ∧ (gIx ty x ld lb iv S h ∧ gIm ty m iv S h) ∧ ((0 ≤ ld ∧ ld ≤ 192) ∧ (1024 ≤ lb ∧ lb ≤ 1000000) ∧ (0 ≤ iv ∧ iv ≤ 26476544))
/-- the room -/
def gRo (k : Nat) (ld lb : Int) (h : gH) (c0 u0 : Nat) : Prop := (c0 ≤ h.1 ∧ u0 ≤ h.2.1) ∧ (1027 ≤ c0 + k ∧ 4096 ≤ u0 + 6 * k) ∧ (1024 * (((h.1 - c0 : Nat) : Int) - 200 - 40 * k - 2 * ld) ≤ lb) ∧ ((((h.2.1 - u0 : Nat) : Int)) ≤ 100000 + 4310 * k + 12480 * ld + 2 * lb) ∧ k ≤ 513
theorem gRo.ok {k : Nat} {ld lb : Int} {h : gH} {c0 u0 : Nat} (r : gRo k ld lb h c0 u0) (h1 : 0 ≤ ld ∧ ld ≤ 192) (h2 : 1024 ≤ lb ∧ lb ≤ 1000000) : h.1 - c0 ≤ 601024 ∧ h.2.1 - u0 ≤ 7293034 := by
  obtain ⟨-, -, r3, r4, r5⟩ := r
  omega
theorem gRo.next {k : Nat} {ld lb ld1 lb1 : Int} {h h2 : gH} {c0 u0 : Nat} (r : gRo k ld lb h c0 u0) (hk : k ≤ 512) (g1 : h.1 ≤ h2.1) (g2 : h.2.1 ≤ h2.2.1) (e1 : 1024 * (((h2.1 : Int) - h.1) - 31 - 2 * (ld1 - ld)) ≤ lb1 - lb) (e2 : ((h2.2.1 : Int) - h.2.1) ≤ 4303 + 12480 * (ld1 - ld) + 2 * (lb1 - lb)) : gRo (k + 1) ld1 lb1 h2 c0 u0 := by
  obtain ⟨r1, r2, r3, r4, r5⟩ := r
  refine ⟨by omega, by omega, ?_, ?_, by omega⟩
  · have : ((h2.1 - c0 : Nat) : Int) = ((h.1 - c0 : Nat) : Int) + ((h2.1 : Int) - h.1) := by omega
    rw [this]
    push_cast
    omega
  · have : ((h2.2.1 - u0 : Nat) : Int) = ((h.2.1 - u0 : Nat) : Int) + ((h2.2.1 : Int) - h.2.1) := by omega
    rw [this]
    push_cast
    omega
theorem gz_two {P : Nat → Option gMt} {G : gG} {cn : Nat → Option Nat} {d : Nat} {t : gMt} {pc : Nat} {L : gL} {S : List Value} {h : gH} {F A B : gR → gL → Prop} (z : gz P G cn d t pc L S h F) (k : ∀ q L9, F q L9 → A q L9 ∨ B q L9) : gz P G cn d t pc L S h A ∨ gz P G cn d t pc L S h B := by
  obtain ⟨n, r, L', g, hF⟩ := z
  exact (k r L' hF).elim (fun w => Or.inl ⟨n, r, L', g, w⟩) (fun w => Or.inr ⟨n, r, L', g, w⟩)
/-- how many slots a run makes: no fewer than none -/
theorem gz_grow {P : Nat → Option gMt} {G : gG} {cn : Nat → Option Nat} {d : Nat} {t : gMt} {pc : Nat} {L : gL} {S : List Value} {h : gH} {F : gR → gL → Prop} (z : gz P G cn d t pc L S h F) : gz P G cn d t pc L S h (fun r L' => F r L' ∧ h.1 ≤ r.2.2.1 ∧ h.2.1 ≤ r.2.2.2.1) := by
  obtain ⟨n, r, L', g, hF⟩ := z
  exact ⟨n, r, L', g, hF, go_grow n d t pc L S h r L' g⟩
section LAWW
variable {p : Program} {l : Launch} {e : Env} {s : State} {m : MethodId} {below : List Frame} {meth : Method} {c : Code} {b : Nat} {D : gD} {ad : Nat → Nat}
theorem gw_seg (C : gLC l p s m meth c b D ad) {E : List Nat} {pc d : Nat} {L : gL} {S : List Value} {h : gH} {F : gR → gL → Prop} (hz : gz gPP gGG gcn d (gtLlaw E) pc L S h F) (hL : L.length = 8) (hd : d ≤ 1000) {H : Heap} {locs : List Loc} {c0 u0 : Nat} {ls : Array Slot} {Q : State → Prop} (hls : gLs ad ls L) (hR : gRp D gcl ad s.heap.size 1027 s h H) (hS : va_S (fun q => s.heap.size ≤ q) s.heap H locs) (h0 : c0 ≤ h.1) (h1 : u0 ≤ h.2.1)
    (kk : ∀ r L', F r L' → (h.1 ≤ r.2.2.1 ∧ h.2.1 ≤ r.2.2.2.1) → (r.2.2.1 - c0 ≤ 601024 ∧ r.2.2.2.1 - u0 ≤ 7293034) ∧ ∀ (H' : Heap) (locs' : List Loc) (ls' : Array Slot), gLs ad ls' L' → gRp D gcl ad s.heap.size 1027 s r.2.2 H' → va_S (fun q => s.heap.size ≤ q) s.heap H' locs' → W p l e room_1 s m #[Value.ref b] below meth c H' locs' (r.2.2.1 - c0) (r.2.2.2.1 - u0) Q (F0 m r.1 ls' (r.2.1.map (gtv ad)))) :
    W p l e room_1 s m #[Value.ref b] below meth c H locs (h.1 - c0) (h.2.1 - u0) Q (F0 m pc ls (S.map (gtv ad))) := by
  obtain ⟨⟨hx, hb, hml, hts, hown, hnm, hr, hk⟩, hU, hV, hA, hl⟩ := C
  obtain ⟨n, r, L', g, hF⟩ := hz
  obtain ⟨⟨k1, k2⟩, k3⟩ := kk r L' hF (go_grow n d _ pc L S h r L' g)
  exact g_walk gtb_ok gPP_ok hA n d (gtLlaw E) pc L S h r L' g (goLlaw E) p e room_1 s m #[Value.ref b] below meth c H locs c0 u0 Q ls hx hb hml hts hown hnm hU hL hls hR hS h0 h1 k1 k2 (by show d ≤ 2048; omega) (by show 64 * d ≤ 84000; omega) (fun H' locs' ls' _ hls' _ hR' hS' => k3 H' locs' ls' hls' hR' hS')
/-- what is left behind a turn -/
def gNX (p : Program) (l : Launch) (e : Env) (s : State) (m : MethodId) (below : List Frame) (meth : Method) (c : Code) (b : Nat) (D : gD) (ad : Nat → Nat) (Q : State → Prop) (Ln : Int) (sc : Nat → Int) (k : Nat) : Prop := ∀ (ty : Nat → Nat) (x mm o : Nat) (ld lb iv : Int) (S : gSS) (h : gH) (c0 u0 : Nat) (H : Heap) (locs : List Loc) (ls : Array Slot), gLTs Ln sc ty x mm o ld lb iv S h → gRo (k + 1) ld lb h c0 u0 → gLs ad ls [some (.ref 2), some (.ref x), some (.ref mm), some (.ref o), some (.int (zi (4 * (k : Int)))), none, none, none] → gRp D gcl ad s.heap.size 1027 s h H → va_S (fun q => s.heap.size ≤ q) s.heap H locs → W p l e room_1 s m #[Value.ref b] below meth c H locs (h.1 - c0) (h.2.1 - u0) Q (F0 m 566 ls [])
theorem lw_read (C : gLC l p s m meth c b D ad) {Q : State → Prop} {Ln : Int} {sc : Nat → Int} {k : Nat} (NX : gNX p l e s m below meth c b D ad Q Ln sc k) (hk : 4 * (k : Int) + 4 ≤ Ln) (hk2 : k ≤ 512) {ty : Nat → Nat} {x mm o : Nat} {ld lb iv : Int} {S : gSS} {h : gH} {c0 u0 : Nat} {H : Heap} {locs : List Loc} {ls : Array Slot} (I9 : gLTs Ln sc ty x mm o ld lb iv S h) (R9 : gRo k ld lb h c0 u0) (hls : gLs ad ls [some (.ref 2), some (.ref x), some (.ref mm), some (.ref o), some (.int (zi (4 * (k : Int)))), none, none, none]) (hR : gRp D gcl ad s.heap.size 1027 s h H) (hS : va_S (fun q => s.heap.size ≤ q) s.heap H locs) : W p l e room_1 s m #[Value.ref b] below meth c H locs (h.1 - c0) (h.2.1 - u0) Q (F0 m 131 ls []) := by
  obtain ⟨⟨hJ, uq, hysx, scr⟩, ⟨tx, tm, to⟩, ⟨hix, him⟩, rld, rlb, riv⟩ := I9
  have hyst := hysx.1
  refine gw_seg C (S := []) (sg_all_read 20 (i := 4 * (k : Int)) hJ uq hyst scr tx tm to (by omega) ld rld lb rlb iv riv hix him) rfl (by decide) hls hR hS R9.1.1 R9.1.2 (fun r L' hF hg => ?_)
  obtain ⟨r1, r2, h2⟩ := r
  obtain ⟨ty2, g, ld1, lb1, iv1, a1, a2, a3, a4, a5, a6, hix2, him2, e0, e1, e2, e3, e4, uq2, q1, q2, hw⟩ := hF
  dsimp only at e1 e2 q1 q2 hg
  subst q1
  subst q2
  subst e0
  have R2 := R9.next hk2 hg.1 hg.2 e1 e2
  exact ⟨R2.ok ⟨a1, a2⟩ ⟨a3, a4⟩, fun H' locs' ls' hls' hR' hS' => NX ty2 x mm o ld1 lb1 iv1 _ h2 c0 u0 H' locs' ls' ⟨⟨g.1, uq2, gStx.gr g (by decide) (fun y hy => by cases hy) hysx, gScr.gr g (by decide) (fun y hy => by cases hy) scr⟩, ⟨g.typ hJ tx rfl, g.typ hJ tm rfl, g.typ hJ to rfl⟩, ⟨hix2, him2⟩, ⟨a1, a2⟩, ⟨a3, a4⟩, ⟨a5, a6⟩⟩ R2 (hls'.wk hw) hR' hS'⟩
theorem lw_scan (C : gLC l p s m meth c b D ad) {Q : State → Prop} {Ln : Int} {sc : Nat → Int} {k : Nat} (NX : gNX p l e s m below meth c b D ad Q Ln sc k) (hk : 4 * (k : Int) + 4 ≤ Ln) (hk2 : k ≤ 512) {ty : Nat → Nat} {x mm o : Nat} {ld lb iv : Int} {S : gSS} {h : gH} {c0 u0 : Nat} {H : Heap} {locs : List Loc} {ls : Array Slot} (I9 : gLTs Ln sc ty x mm o ld lb iv S h) (R9 : gRo k ld lb h c0 u0) (hls : gLs ad ls [some (.ref 2), some (.ref x), some (.ref mm), some (.ref o), some (.int (zi (4 * (k : Int)))), none, none, none]) (hR : gRp D gcl ad s.heap.size 1027 s h H) (hS : va_S (fun q => s.heap.size ≤ q) s.heap H locs) : W p l e room_1 s m #[Value.ref b] below meth c H locs (h.1 - c0) (h.2.1 - u0) Q (F0 m 420 ls []) := by
  obtain ⟨⟨hJ, uq, hysx, scr⟩, ⟨tx, tm, to⟩, ⟨hix, him⟩, rld, rlb, riv⟩ := I9
  have hyst := hysx.1
  refine gw_seg C (S := []) (sg_all_scan 20 (i := 4 * (k : Int)) hJ uq hyst scr tx tm to (by omega) ld rld lb rlb iv riv hix him) rfl (by decide) hls hR hS R9.1.1 R9.1.2 (fun r L' hF hg => ?_)
  obtain ⟨r1, r2, h2⟩ := r
  obtain ⟨ty2, g, ld1, lb1, iv1, a1, a2, a3, a4, a5, a6, hix2, him2, e1, e2, e3, e4, uq2, q1, q2, hw⟩ := hF
  dsimp only at e1 e2 q1 q2 hg
  subst q1
  subst q2
  skip
  have R2 := R9.next hk2 hg.1 hg.2 e1 e2
  exact ⟨R2.ok ⟨a1, a2⟩ ⟨a3, a4⟩, fun H' locs' ls' hls' hR' hS' => NX ty2 x mm o ld1 lb1 iv1 _ h2 c0 u0 H' locs' ls' ⟨⟨g.1, uq2, gStx.gr g (by decide) (fun y hy => by cases hy) hysx, gScr.gr g (by decide) (fun y hy => by cases hy) scr⟩, ⟨g.typ hJ tx rfl, g.typ hJ tm rfl, g.typ hJ to rfl⟩, ⟨hix2, him2⟩, ⟨a1, a2⟩, ⟨a3, a4⟩, ⟨a5, a6⟩⟩ R2 (hls'.wk hw) hR' hS'⟩
theorem lw_take (C : gLC l p s m meth c b D ad) {Q : State → Prop} {Ln : Int} {sc : Nat → Int} {k : Nat} (NX : gNX p l e s m below meth c b D ad Q Ln sc k) (hk : 4 * (k : Int) + 4 ≤ Ln) (hk2 : k ≤ 512) {ty : Nat → Nat} {x mm o : Nat} {ld lb iv : Int} {S : gSS} {h : gH} {c0 u0 : Nat} {H : Heap} {locs : List Loc} {ls : Array Slot} (I9 : gLTs Ln sc ty x mm o ld lb iv S h) (R9 : gRo k ld lb h c0 u0) (hls : gLs ad ls [some (.ref 2), some (.ref x), some (.ref mm), some (.ref o), some (.int (zi (4 * (k : Int)))), none, none, none]) (hR : gRp D gcl ad s.heap.size 1027 s h H) (hS : va_S (fun q => s.heap.size ≤ q) s.heap H locs) : W p l e room_1 s m #[Value.ref b] below meth c H locs (h.1 - c0) (h.2.1 - u0) Q (F0 m 553 ls []) := by
  obtain ⟨⟨hJ, uq, hysx, scr⟩, ⟨tx, tm, to⟩, ⟨hix, him⟩, rld, rlb, riv⟩ := I9
  have hyst := hysx.1
  refine gw_seg C (S := []) (sg_all_take 20 (i := 4 * (k : Int)) hJ uq hyst scr tx tm to (by omega) ld rld lb rlb iv riv hix him) rfl (by decide) hls hR hS R9.1.1 R9.1.2 (fun r L' hF hg => ?_)
  obtain ⟨r1, r2, h2⟩ := r
  obtain ⟨ty2, g, ld1, lb1, iv1, a1, a2, a3, a4, a5, a6, hix2, him2, e0, e1, e2, e3, e4, uq2, q1, q2, hw⟩ := hF
  dsimp only at e1 e2 q1 q2 hg
  subst q1
  subst q2
  subst e0
  have R2 := R9.next hk2 hg.1 hg.2 e1 e2
  exact ⟨R2.ok ⟨a1, a2⟩ ⟨a3, a4⟩, fun H' locs' ls' hls' hR' hS' => NX ty2 x mm o ld1 lb1 iv1 _ h2 c0 u0 H' locs' ls' ⟨⟨g.1, uq2, gStx.gr g (by decide) (fun y hy => by cases hy) hysx, gScr.gr g (by decide) (fun y hy => by cases hy) scr⟩, ⟨g.typ hJ tx rfl, g.typ hJ tm rfl, g.typ hJ to rfl⟩, ⟨hix2, him2⟩, ⟨a1, a2⟩, ⟨a3, a4⟩, ⟨a5, a6⟩⟩ R2 (hls'.wk hw) hR' hS'⟩
end LAWW
