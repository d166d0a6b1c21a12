/-! ===== the law's loop (by program) ===== -/
def R_law : String := "DctFilterLaw"
def lw_P (b : Addr) (xs : List Int32) (args : Array Value) (s : State) : Prop := args = #[.ref b] ∧ s.IntsAt b xs ∧ xs.length ≤ 2048 ∧ (Jvm.Cond.and given_1 narrow_1).before args s = true
def lw_Q (_ : Array Value) (s : State) (o : Outcome) (t : State) : Prop := o = .returned (some (.int 1)) ∧ Framed s o t [] 601024 7293034
def lw_Z (below : List Frame) (a : Array Value) (s : State) : State → Prop := fun t => ∃ o, t.status = .running ∧ Ended t below o ∧ lw_Q a s o t
/-- the law's own end, with 1 on the stack, nothing written that was there before, its room as the claim has it -/
theorem lw_ret {p : Program} {l : Launch} {e : Env} {s : State} {m : MethodId} {below : List Frame} {meth : Method} {c : Code} {b : Nat} (hx : p.tables.exec = Jvm.exec) (hb : c.code = code) (hr : meth.sig.returnType = ret) (hlocks : meth.locks = false) {pc : Nat} {H : Heap} {ls : Array Slot} (hdg : decode code pc = .ok (.ireturn, 1)) : W p l e room_1 s m #[Value.ref b] below meth c H [] 601024 7293034 (lw_Z below #[Value.ref b] s) (F0 m pc ls [.int 1]) := by
  intro T hT X
  obtain ⟨fs, hret, hrun, hended, hW, hframe⟩ := X.leave (v := some (.int 1)) (hlocks := hlocks) (fun h => by rw [hr] at h; cases h)
  have hmeth' : T.vm.method? m = some meth := X.method'
  refine ⟨T.setFrames fs, ?_, .returned (some (.int 1)), hrun, hended, rfl, ⟨_, rfl⟩, hW, hframe⟩
  jvm_step X.here [X.here.top, hx, hb, hdg, hmeth', hr, ret, narrow_b1]
  (try refine ⟨rfl, ?_⟩); (try refine ⟨rfl, ?_⟩)
  first | (intro acts; rw [hret _ acts rfl rfl rfl]) | rw [hret _ _ rfl rfl rfl]
  exact Steps.refl _
section LAWL
variable {p : Program} {l : Launch} {e : Env} {s : State} {m : MethodId} {below : List Frame} {meth : Method} {c : Code} {b : Nat} {D : gD} {ad : Nat → Nat}
theorem lw_fin (C : gLC l p s m meth c b D ad) {Ln : Int} {sc : Nat → Int} {k : Nat} (hk2 : k ≤ 512) {ty : Nat → Nat} {x mm o : Nat} {ld lb iv : Int} {S : gSS} {h : gH} {c0 u0 : Nat} {H : Heap} {locs : List Loc} {ls : Array Slot} (I9 : gLTs Ln sc ty x mm o ld lb iv S h) (R9 : gRo k ld lb h c0 u0) (hls : gLs ad ls [some (.ref 2), some (.ref x), some (.ref mm), some (.ref o), some (.int (zi (4 * (k : Int)))), none, none, none]) (hR : gRp D gcl ad s.heap.size 1027 s h H) (hS : va_S (fun q => s.heap.size ≤ q) s.heap H locs) : W p l e room_1 s m #[Value.ref b] below meth c H locs (h.1 - c0) (h.2.1 - u0) (lw_Z below #[Value.ref b] s) (F0 m 572 ls []) := by
  obtain ⟨⟨hJ, uq, hysx, scr⟩, ⟨tx, tm, to⟩, ⟨hix, him⟩, rld, rlb, riv⟩ := I9
  have hyst := hysx.1
  refine gw_seg C (S := []) (sg_end 20 (i := 4 * (k : Int)) hJ uq hyst scr tx tm to ⟨by omega, by omega⟩) rfl (by decide) hls hR hS R9.1.1 R9.1.2 (fun r L' hF hg => ?_)
  obtain ⟨r1, r2, h9⟩ := r
  obtain ⟨eh, q1, q2⟩ := hF
  dsimp only at eh q1 q2
  have eh2 := eh.symm
  subst eh2
  subst q1
  subst q2
  have ok := R9.ok rld rlb
  refine ⟨ok, fun H1 locs1 ls1 hls1 hR1 hS1 => ?_⟩
  exact va_forget (fun q hq => hS1.2.2 q hq) (W.widen ok.1 ok.2 (lw_ret (pc := 573) C.1.1 C.1.2.1 C.1.2.2.2.2.2.2.1 C.1.2.2.2.2.2.2.2 (by decide +kernel)))
theorem lw_turn (C : gLC l p s m meth c b D ad) {Ln : Int} {sc : Nat → Int} {k : Nat} (NX0 : 4 * (k : Int) + 4 ≤ Ln → gNX p l e s m below meth c b D ad (lw_Z below #[Value.ref b] s) Ln sc k) (hk2 : k ≤ 512) {ty : Nat → Nat} {x mm o : Nat} {ld lb iv : Int} {S : gSS} {h : gH} {c0 u0 : Nat} {H : Heap} {locs : List Loc} {ls : Array Slot} (I9 : gLTs Ln sc ty x mm o ld lb iv S h) (R9 : gRo k ld lb h c0 u0) (hls : gLs ad ls [some (.ref 2), some (.ref x), some (.ref mm), some (.ref o), some (.int (zi (4 * (k : Int)))), none, none, none]) (hR : gRp D gcl ad s.heap.size 1027 s h H) (hS : va_S (fun q => s.heap.size ≤ q) s.heap H locs) : W p l e room_1 s m #[Value.ref b] below meth c H locs (h.1 - c0) (h.2.1 - u0) (lw_Z below #[Value.ref b] s) (F0 m 23 ls []) := by
  have I8 := I9
  obtain ⟨⟨hJ, uq, hysx, scr⟩, ⟨tx, tm, to⟩, ⟨hix, him⟩, rld, rlb, riv⟩ := I9
  have hyst := hysx.1
  refine gw_seg C (S := []) (sg_turn 20 (i := 4 * (k : Int)) hJ uq hyst scr tx tm to ⟨by omega, by omega⟩) rfl (by decide) hls hR hS R9.1.1 R9.1.2 (fun r L' hF hg => ?_)
  obtain ⟨r1, r2, h9⟩ := r
  obtain ⟨eh, q2, hw, hq⟩ := hF
  dsimp only at eh q2 hq
  have eh2 := eh.symm
  subst eh2
  subst q2
  refine ⟨R9.ok rld rlb, fun H1 locs1 ls1 hls1 hR1 hS1 => ?_⟩
  have hls2 := hls1.wk hw
  rcases hq with rfl | ⟨hk, hq⟩
  · exact lw_fin C hk2 I8 R9 hls2 hR1 hS1
  · have NX := NX0 hk
    rcases hq with rfl | rfl | rfl | rfl | rfl | rfl | rfl | rfl | rfl | rfl | rfl | rfl | rfl | rfl
    · exact lw_op_add C NX hk hk2 I8 R9 hls2 hR1 hS1
    · exact lw_read C NX hk hk2 I8 R9 hls2 hR1 hS1
    · exact lw_op_sample C NX hk hk2 I8 R9 hls2 hR1 hS1
    · exact lw_op_coefficient C NX hk hk2 I8 R9 hls2 hR1 hS1
    · exact lw_op_exact C NX hk hk2 I8 R9 hls2 hR1 hS1
    · exact lw_op_told C NX hk hk2 I8 R9 hls2 hR1 hS1
    · exact lw_op_table C NX hk hk2 I8 R9 hls2 hR1 hS1
    · exact lw_op_point C NX hk hk2 I8 R9 hls2 hR1 hS1
    · exact lw_scan C NX hk hk2 I8 R9 hls2 hR1 hS1
    · exact lw_op_restart C NX hk hk2 I8 R9 hls2 hR1 hS1
    · exact lw_op_encode C NX hk hk2 I8 R9 hls2 hR1 hS1
    · exact lw_op_octet C NX hk hk2 I8 R9 hls2 hR1 hS1
    · exact lw_take C NX hk hk2 I8 R9 hls2 hR1 hS1
    · exact NX ty x mm o ld lb iv S h c0 u0 H1 locs1 ls1 I8 (R9.next hk2 (Nat.le_refl _) (Nat.le_refl _) (by omega) (by omega)) hls2 hR1 hS1
/-- the state at the head of the loop -/
def gTN (p : Program) (l : Launch) (e : Env) (s : State) (m : MethodId) (below : List Frame) (meth : Method) (c : Code) (b : Nat) (D : gD) (ad : Nat → Nat) (Ln : Int) (sc : Nat → Int) (k : Nat) : Prop := ∀ (ty : Nat → Nat) (x mm o : Nat) (ld lb iv : Int) (S : gSS) (h : gH) (c0 u0 : Nat) (H : Heap) (locs : List Loc) (ls : Array Slot), gLTs Ln sc ty x mm o ld lb iv S h → gRo k ld lb h c0 u0 → gLs ad ls [some (.ref 2), some (.ref x), some (.ref mm), some (.ref o), some (.int (zi (4 * (k : Int)))), none, none, none] → gRp D gcl ad s.heap.size 1027 s h H → va_S (fun q => s.heap.size ≤ q) s.heap H locs → W p l e room_1 s m #[Value.ref b] below meth c H locs (h.1 - c0) (h.2.1 - u0) (lw_Z below #[Value.ref b] s) (F0 m 23 ls [])
theorem lw_next (C : gLC l p s m meth c b D ad) {Ln : Int} {sc : Nat → Int} {k : Nat} (hk : 4 * (k : Int) + 4 ≤ Ln) (kk : gTN p l e s m below meth c b D ad Ln sc (k + 1)) : gNX p l e s m below meth c b D ad (lw_Z below #[Value.ref b] s) Ln sc k := by
  intro ty x mm o ld lb iv S h c0 u0 H locs ls I9 R9 hls hR hS
  have I8 := I9
  obtain ⟨⟨hJ, uq, hysx, scr⟩, ⟨tx, tm, to⟩, ⟨hix, him⟩, rld, rlb, riv⟩ := I9
  have hyst := hysx.1
  refine gw_seg C (S := []) (sg_next 20 (i := 4 * (k : Int)) hJ uq hyst scr tx tm to ⟨by omega, hk⟩) rfl (by decide) hls hR hS R9.1.1 R9.1.2 (fun r L' hF hg => ?_)
  obtain ⟨r1, r2, h9⟩ := r
  obtain ⟨eh, hw, q1, q2⟩ := hF
  dsimp only at eh q1 q2
  have eh2 := eh.symm
  subst eh2
  subst q1
  subst q2
  refine ⟨R9.ok rld rlb, fun H1 locs1 ls1 hls1 hR1 hS1 => ?_⟩
  have e4 : 4 * (k : Int) + 4 = 4 * ((k + 1 : Nat) : Int) := by omega
  rw [e4] at hw
  exact kk ty x mm o ld lb iv S h c0 u0 H1 locs1 ls1 I8 R9 (hls1.wk hw) hR1 hS1
theorem lw_loop (C : gLC l p s m meth c b D ad) {Ln : Int} {sc : Nat → Int} : ∀ (f k : Nat), f + k = 512 → gTN p l e s m below meth c b D ad Ln sc k := by
  intro f
  induction f with
  | zero =>
    intro k hf ty x mm o ld lb iv S h c0 u0 H locs ls I9 R9 hls hR hS
    exact lw_turn C (fun hk => by have := I9.1.2.2.2.2.2.2.2.1.2; omega) (by omega) I9 R9 hls hR hS
  | succ f ih =>
    intro k hf ty x mm o ld lb iv S h c0 u0 H locs ls I9 R9 hls hR hS
    exact lw_turn C (fun hk => lw_next C hk (ih (k + 1) (by omega))) (by omega) I9 R9 hls hR hS
end LAWL
