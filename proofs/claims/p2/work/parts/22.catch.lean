/-! ===== the catching of a callee's exception, class links cold or warm ===== -/
/-- the search through these rows of a table ends so, and leaves these tables -/
def gfd (e : Env) (f : JFrame) (a : Addr) (rows : List ExceptionTableEntry) (S : State) (hd : Handler) (vm' : Vm) : Prop :=
  ∀ (Q : Handler → Pre) (E : CtlPost) (d : Bool) (acts : List Action), wp (findHandler.go f a rows) Q E e d acts S ↔ Q hd d acts (S.setVm vm')
section GCt
variable {e : Env} {S : State} {f : JFrame} {a : Addr} {x : ExceptionTableEntry} {rows : List ExceptionTableEntry} {k : ClassId} {cell : Cell} {hd : Handler} {vm' : Vm}
theorem gfd_link (hx : covers x f.pc = true) (h0 : x.catchType ≠ 0) (hl : S.vm.ClassLinks e.platform f.method.cls x.catchType k) (hcell : S.heap[a]? = some cell) (hobj : ∀ j, cell.vm ≠ .statics j)
    (h1 : ∃ c, S.vm.classes[cell.cls]? = some c) (h2 : ∃ c, S.vm.classes[k]? = some c) :
    (S.vm.assignable cell.cls k = true → gfd e f a (x :: rows) S (.found x.handlerPc) (S.vm.noted f.method.cls x.catchType (.cls k))) ∧
    (S.vm.assignable cell.cls k = false → gfd e f a rows (S.setVm (S.vm.noted f.method.cls x.catchType (.cls k))) hd vm' → gfd e f a (x :: rows) S hd vm') := by
  simp only [covers] at hx
  obtain ⟨ha, ht⟩ := (resolveClass_links e.toSetting hl).op (op := VmOp.resolveClass f.method.cls x.catchType) rfl
  have hal : S.vm.Alike (S.vm.noted f.method.cls x.catchType (.cls k)) := (Vm.Alike.refl S.vm).noted _ _ _
  obtain ⟨c1, h1⟩ := h1
  obtain ⟨c2, h2⟩ := h2
  obtain ⟨c1', h1', -⟩ := hal.2.2 _ _ h1
  obtain ⟨c2', h2', -⟩ := hal.2.2 _ _ h2
  refine ⟨fun hf Q E d acts => ?_, fun hf hr Q E d acts => ?_⟩
  · have hf' : (S.vm.noted f.method.cls x.catchType (.cls k)).assignable cell.cls k = true := by rw [hal.assignable]; exact hf
    simp [findHandler.go, hx, h0, ha, ht, hcell, hobj, h1', h2', hf', VmOp.dirties, VmOp.acts]
  · have hf' : (S.vm.noted f.method.cls x.catchType (.cls k)).assignable cell.cls k = false := by rw [hal.assignable]; exact hf
    have hr := hr Q E d acts
    rw [State.setVm_setVm] at hr
    rw [← hr]
    simp [findHandler.go, hx, h0, ha, ht, hcell, hobj, h1', h2', hf', VmOp.dirties, VmOp.acts]
end GCt
section GCl
variable {e : Env} {s : State} {f : JFrame} {a : Addr} {x : ExceptionTableEntry} {rest : List ExceptionTableEntry} {kx : ClassId} {cell : Cell}
theorem gfd_rows (hobj : ∀ j, cell.vm ≠ .statics j) (hk0 : ∃ c, s.vm.classes[cell.cls]? = some c) (hx : covers x f.pc = true) (h0 : x.catchType ≠ 0) (hlx : s.vm.ClassLinks e.platform f.method.cls x.catchType kx) (hfit : s.vm.assignable cell.cls kx = true) :
    ∀ (pre : List ExceptionTableEntry) (S : State), s.WarmedH S.vm → S.heap[a]? = some cell → (∀ y ∈ pre, covers y f.pc = false ∨ (y.catchType ≠ 0 ∧ ∃ k, s.vm.ClassLinks e.platform f.method.cls y.catchType k ∧ s.vm.assignable cell.cls k = false)) →
      ∃ vm', s.WarmedH vm' ∧ gfd e f a (pre ++ x :: rest) S (.found x.handlerPc) vm' := by
  obtain ⟨c0, hk0⟩ := hk0
  have step : ∀ (k : ClassId) (ix : Nat) (S : State), s.vm.ClassLinks e.platform f.method.cls ix k → s.WarmedH S.vm → s.WarmedH (S.vm.noted f.method.cls ix (.cls k)) ∧ ∃ c, S.vm.classes[k]? = some c := by
    intro k ix S hl hW
    obtain ⟨dk, _, _, kt, hd, _, _, _, _, hkt, _, hopen⟩ := hl.here
    obtain ⟨kt', hkt', -⟩ := hW.alike.2.2 _ _ hkt
    exact ⟨hW.noted hd hopen (State.rightAt_cls hl), kt', hkt'⟩
  intro pre
  induction pre with
  | nil =>
    intro S hW hcell _
    obtain ⟨c0', hc0', -⟩ := hW.alike.2.2 _ _ hk0
    obtain ⟨hW', hc⟩ := step kx _ S hlx hW
    exact ⟨_, hW', (gfd_link (rows := rest) (hd := .found x.handlerPc) (vm' := S.vm) hx h0 (hW.classLinks hlx) hcell hobj ⟨c0', hc0'⟩ hc).1 (by rw [hW.alike.assignable]; exact hfit)⟩
  | cons y ys ih =>
    intro S hW hcell hpass
    obtain ⟨c0', hc0', -⟩ := hW.alike.2.2 _ _ hk0
    have hrest := fun z hz => hpass z (List.mem_cons_of_mem y hz)
    cases hcov : covers y f.pc with
    | false =>
      obtain ⟨vm', hW', hq⟩ := ih S hW hcell hrest
      exact ⟨vm', hW', fun Q E d acts => by rw [List.cons_append, W.findHandler_go_skip hcov]; exact hq Q E d acts⟩
    | true =>
      rcases hpass y List.mem_cons_self with h | ⟨hy0, k, hl, hno⟩
      · rw [h] at hcov; cases hcov
      · obtain ⟨hW1, hc⟩ := step k _ S hl hW
        obtain ⟨vm', hW', hq⟩ := ih (S.setVm (S.vm.noted f.method.cls y.catchType (.cls k))) hW1 hcell hrest
        exact ⟨vm', hW', (gfd_link hcov hy0 (hW.classLinks hl) hcell hobj ⟨c0', hc0'⟩ hc).2 (by rw [hW.alike.assignable]; exact hno) hq⟩
end GCl
