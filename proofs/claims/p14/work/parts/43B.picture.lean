/-! ===== the landed picture as one property (by program) ===== -/
def gPCp : List Nat := [54000, 54002, 54003, 54005, 54006, 54007, 54008, 54010, 54011, 54012, 54013, 57999, 82001, 82002, 82003, 82004, 82005, 82006, 82007, 82008, 83001, 83002, 83003, 83004, 83005, 83006, 83007, 83008, 84001, 84002, 84003, 84004, 84005, 84006, 84007, 84008]
def gPCt : List (Nat × Nat × Nat) := [(0, 7, 0), (0, 12, 1), (0, 13, 2), (0, 8, 3), (0, 5, 4), (0, 6, 5), (0, 10, 6), (0, 11, 7), (1, 1, 8), (1, 2, 9), (1, 3, 10), (1, 4, 11), (1, 5, 12), (1, 6, 13), (1, 7, 14), (1, 8, 15), (2, 1, 16), (2, 2, 17), (2, 3, 18), (2, 4, 19), (2, 5, 20), (2, 6, 21), (2, 7, 22), (2, 8, 23), (3, 1, 24), (3, 2, 25), (3, 3, 26), (3, 4, 27), (3, 5, 28), (3, 6, 29), (3, 7, 30), (3, 8, 31)]
def gPCr : List (Nat × Int × Int) := [(0, 0, 3), (1, 0, 8), (2, 0, 8), (3, 0, 192), (4, 0, 64), (5, 0, 64), (6, 1, 2), (7, 1, 2), (8, (-1), 15), (9, 0, 15), (10, (-1), 255), (11, 0, 16), (12, 0, 16), (13, 0, 16), (14, 0, 16), (15, 0, 192), (16, (-1), 15), (17, 0, 15), (18, (-1), 255), (19, 0, 16), (20, 0, 16), (21, 0, 16), (22, 0, 16), (23, 0, 192), (24, (-1), 15), (25, 0, 15), (26, (-1), 255), (27, 0, 16), (28, 0, 16), (29, 0, 16), (30, 0, 16), (31, 0, 192)]
def gPCc (x b0 b1 b2 : Nat) : Nat → Nat := fun i => match i with
  | 0 => x
  | 1 => b0
  | 2 => b1
  | _ => b2
def gPCk : Nat → Nat := fun i => match i with
  | 0 => 54
  | 1 => 82
  | 2 => 83
  | _ => 84
def gPCh (v : Nat → Int) : Prop := (0 < (v 0) → gPq (v 1) (v 2) (v 8) (v 9) (v 11) (v 12) (v 13) (v 14) (v 15) (v 3)) ∧ (1 < (v 0) → gPq (v 1) (v 2) (v 16) (v 17) (v 19) (v 20) (v 21) (v 22) (v 23) (v 3)) ∧ (2 < (v 0) → gPq (v 1) (v 2) (v 24) (v 25) (v 27) (v 28) (v 29) (v 30) (v 31) (v 3)) ∧ (0 < (v 0) → ((v 8) ≤ (v 6) ∧ (v 9) ≤ (v 7) ∧ 0 ≤ (v 10) ∧ (v 10) ≤ 3)) ∧ (1 < (v 0) → ((v 16) ≤ (v 6) ∧ (v 17) ≤ (v 7) ∧ 0 ≤ (v 18) ∧ (v 18) ≤ 3)) ∧ (2 < (v 0) → ((v 24) ≤ (v 6) ∧ (v 25) ≤ (v 7) ∧ 0 ≤ (v 26) ∧ (v 26) ≤ 3)) ∧ ((v 0) = 0 → ((v 3) = 0 ∧ (v 4) = 0)) ∧ (0 < (v 0) → ((v 1) = zup (v 4) (8 * (v 6)) ∧ (v 2) = zup (v 5) (8 * (v 7)) ∧ 1 ≤ (v 4) ∧ 1 ≤ (v 5)))
def gPCl (v : Nat → Int) (co dm : Nat) (ld : Int) (h : gH) : Prop := v 3 * 64 ≤ (h.2.2.2.1 co : Int) ∧ v 3 ≤ (h.2.2.2.1 dm : Int) ∧ (h.2.2.2.1 co : Int) = 64 * (h.2.2.2.1 dm : Int) ∧ (h.2.2.2.1 dm : Int) = ld
def gPC (ty : Nat → Nat) (x b0 b1 b2 : Nat) (ld : Int) (h : gH) : Prop := (ty x = 54 ∧ ty b0 = 82 ∧ ty b1 = 83 ∧ ty b2 = 84) ∧ ∃ (bn co dm : Nat) (v : Nat → Int), (ty bn = 57 ∧ ty co = 112 ∧ ty dm = 113) ∧ (h.2.2.2.2 x 0 = .ref bn ∧ h.2.2.2.2 bn 0 = .ref b0 ∧ h.2.2.2.2 bn 1 = .ref b1 ∧ h.2.2.2.2 bn 2 = .ref b2 ∧ h.2.2.2.2 x 2 = .ref co ∧ h.2.2.2.2 x 3 = .ref dm) ∧ (∀ e ∈ gPCt, h.2.2.2.2 (gPCc x b0 b1 b2 e.1) e.2.1 = .int (zi (v e.2.2))) ∧ (∀ e ∈ gPCr, e.2.1 ≤ v e.1 ∧ v e.1 ≤ e.2.2) ∧ gPCh v ∧ gPCl v co dm ld h
theorem gPCc_ty {ty : Nat → Nat} {x b0 b1 b2 : Nat} (t : ty x = 54 ∧ ty b0 = 82 ∧ ty b1 = 83 ∧ ty b2 = 84) (i : Nat) : ty (gPCc x b0 b1 b2 i) = gPCk i := by
  match i with
  | 0 => exact t.1
  | 1 => exact t.2.1
  | 2 => exact t.2.2.1
  | (n + 3) => exact t.2.2.2
theorem gPCk_T (i : Nat) : ∃ r, rT (gPCk i) = some r := by
  match i with
  | 0 => exact ⟨_, rfl⟩
  | 1 => exact ⟨_, rfl⟩
  | 2 => exact ⟨_, rfl⟩
  | (n + 3) => exact ⟨_, rfl⟩
theorem gPCt_p : ∀ e ∈ gPCt, gpl rT (gPCk e.1) e.2.1 ∈ gPCp := by decide
theorem gPC.cg {ty : Nat → Nat} {x b0 b1 b2 : Nat} {ld : Int} {h h' : gH} (H : ∀ c k, gpl rT (ty c) k ∈ gPCp → h'.2.2.2.2 c k = h.2.2.2.2 c k) (Hl : ∀ c r, rT (ty c) = some r → h'.2.2.2.1 c = h.2.2.2.1 c) (p : gPC ty x b0 b1 b2 ld h) : gPC ty x b0 b1 b2 ld h' := by
  obtain ⟨t, bn, co, dm, v, ⟨tbn, tco, tdm⟩, ⟨e0, e1, e2, e3, e4, e5⟩, hv, hr, hh, l0, l1, l2, l3⟩ := p
  have c1 : h'.2.2.2.1 co = h.2.2.2.1 co := Hl co rg112 (by rw [tco]; rfl)
  have c2 : h'.2.2.2.1 dm = h.2.2.2.1 dm := Hl dm rg113 (by rw [tdm]; rfl)
  refine ⟨t, bn, co, dm, v, ⟨tbn, tco, tdm⟩, ⟨(H _ _ (by rw [t.1]; decide)).trans e0, (H _ _ (by rw [tbn]; decide)).trans e1, (H _ _ (by rw [tbn]; decide)).trans e2, (H _ _ (by rw [tbn]; decide)).trans e3, (H _ _ (by rw [t.1]; decide)).trans e4, (H _ _ (by rw [t.1]; decide)).trans e5⟩, fun e he => (H _ _ ?_).trans (hv e he), hr, hh, by rw [c1]; exact l0, by rw [c2]; exact l1, by rw [c1, c2]; exact l2, by rw [c2]; exact l3⟩
  rw [gPCc_ty t]
  exact gPCt_p e he
theorem gPC.fr {ty : Nat → Nat} {x b0 b1 b2 : Nat} {ld : Int} {h h' : gH} {l : List Nat} (g : gFr rT ty l h h') (hl : ∀ x ∈ gPCp, ¬ x ∈ l) (p : gPC ty x b0 b1 b2 ld h) : gPC ty x b0 b1 b2 ld h' := p.cg (fun c k hk => g.2.2.2.2 c k (hl _ hk)) (fun c _ _ => congrFun g.2.2.2.1 c)
theorem gPC.pt {ty : Nat → Nat} {x b0 b1 b2 : Nat} {ld : Int} {h h' : gH} {c k q2 : Nat} (f : ∀ x j, ¬ (x = c ∧ j = k) → h'.2.2.2.2 x j = h.2.2.2.2 x j) (e : h'.2.2.2.1 = h.2.2.2.1) (ht : ty c = q2) (hq : ∀ j, ¬ gpl rT q2 j ∈ gPCp) (p : gPC ty x b0 b1 b2 ld h) : gPC ty x b0 b1 b2 ld h' := p.cg (fun b j hj => f b j (fun w => hq j (by rw [← ht, ← w.1]; exact hj))) (fun b _ _ => congrFun e b)
theorem gPC.pa {ty : Nat → Nat} {x b0 b1 b2 : Nat} {ld : Int} {h h' : gH} {c q2 : Nat} {Q : Nat → Prop} (f : ∀ x j, ¬ (x = c ∧ Q j) → h'.2.2.2.2 x j = h.2.2.2.2 x j) (e : h'.2.2.2.1 = h.2.2.2.1) (ht : ty c = q2) (hq : ∀ j, ¬ gpl rT q2 j ∈ gPCp) (p : gPC ty x b0 b1 b2 ld h) : gPC ty x b0 b1 b2 ld h' := p.cg (fun b j hj => f b j (fun w => hq j (by rw [← ht, ← w.1]; exact hj))) (fun b _ _ => congrFun e b)
theorem gPC.pk {ty : Nat → Nat} {x b0 b1 b2 : Nat} {ld : Int} {h h' : gH} {c k q2 : Nat} (f : ∀ x j, ¬ (x = c ∧ j = k) → h'.2.2.2.2 x j = h.2.2.2.2 x j) (e : h'.2.2.2.1 = h.2.2.2.1) (ht : ty c = q2) (hq : ¬ gpl rT q2 k ∈ gPCp) (p : gPC ty x b0 b1 b2 ld h) : gPC ty x b0 b1 b2 ld h' := p.cg (fun b j hj => f b j (fun w => hq (by rw [← ht, ← w.1, ← w.2]; exact hj))) (fun b _ _ => congrFun e b)
theorem gPC.gr {nk X l : List Nat} {ty ty2 : Nat → Nat} {x b0 b1 b2 : Nat} {ld : Int} {h h2 : gH} (g : gSg nk X l ty h ty2 h2) (hJ : gJ rT 1027 ty h) (hl : ∀ x ∈ gPCp, ¬ x ∈ l) (p : gPC ty x b0 b1 b2 ld h) : gPC ty2 x b0 b1 b2 ld h2 := by
  obtain ⟨t, bn, co, dm, v, ⟨tbn, tco, tdm⟩, ⟨e0, e1, e2, e3, e4, e5⟩, hv, hr, hh, l0, l1, l2, l3⟩ := p
  have c1 : h2.2.2.2.1 co = h.2.2.2.1 co := g.len hJ tco rfl
  have c2 : h2.2.2.2.1 dm = h.2.2.2.1 dm := g.len hJ tdm rfl
  refine ⟨⟨g.typ hJ t.1 rfl, g.typ hJ t.2.1 rfl, g.typ hJ t.2.2.1 rfl, g.typ hJ t.2.2.2 rfl⟩, bn, co, dm, v, ⟨g.typ hJ tbn rfl, g.typ hJ tco rfl, g.typ hJ tdm rfl⟩, ⟨g.at hJ t.1 rfl (hl _ (by decide)) e0, g.at hJ tbn rfl (hl _ (by decide)) e1, g.at hJ tbn rfl (hl _ (by decide)) e2, g.at hJ tbn rfl (hl _ (by decide)) e3, g.at hJ t.1 rfl (hl _ (by decide)) e4, g.at hJ t.1 rfl (hl _ (by decide)) e5⟩, fun e he => ?_, hr, hh, by rw [c1]; exact l0, by rw [c2]; exact l1, by rw [c1, c2]; exact l2, by rw [c2]; exact l3⟩
  obtain ⟨r, hr⟩ := gPCk_T e.1
  exact g.at hJ (gPCc_ty t e.1) hr (hl _ (gPCt_p e he)) (hv e he)
def gPCv (cn uc ur bl w hh gh gv hb0 vb0 tq0 C0 R0 oc0 or0 f0 hb1 vb1 tq1 C1 R1 oc1 or1 f1 hb2 vb2 tq2 C2 R2 oc2 or2 f2 : Int) : Nat → Int := fun i => match i with
  | 0 => cn
  | 1 => uc
  | 2 => ur
  | 3 => bl
  | 4 => w
  | 5 => hh
  | 6 => gh
  | 7 => gv
  | 8 => hb0
  | 9 => vb0
  | 10 => tq0
  | 11 => C0
  | 12 => R0
  | 13 => oc0
  | 14 => or0
  | 15 => f0
  | 16 => hb1
  | 17 => vb1
  | 18 => tq1
  | 19 => C1
  | 20 => R1
  | 21 => oc1
  | 22 => or1
  | 23 => f1
  | 24 => hb2
  | 25 => vb2
  | 26 => tq2
  | 27 => C2
  | 28 => R2
  | 29 => oc2
  | 30 => or2
  | 31 => f2
  | _ => 0
theorem gPC.mk {ty : Nat → Nat} {x b0 b1 b2 bn co dm : Nat} {ld : Int} {h : gH} {cn uc ur bl w hh gh gv hb0 vb0 tq0 C0 R0 oc0 or0 f0 hb1 vb1 tq1 C1 R1 oc1 or1 f1 hb2 vb2 tq2 C2 R2 oc2 or2 f2 : Int} (t : ty x = 54 ∧ ty b0 = 82 ∧ ty b1 = 83 ∧ ty b2 = 84) (tt : ty bn = 57 ∧ ty co = 112 ∧ ty dm = 113) (er : h.2.2.2.2 x 0 = .ref bn ∧ h.2.2.2.2 bn 0 = .ref b0 ∧ h.2.2.2.2 bn 1 = .ref b1 ∧ h.2.2.2.2 bn 2 = .ref b2 ∧ h.2.2.2.2 x 2 = .ref co ∧ h.2.2.2.2 x 3 = .ref dm) (e0 : h.2.2.2.2 x 7 = .int (zi cn)) (e1 : h.2.2.2.2 x 12 = .int (zi uc)) (e2 : h.2.2.2.2 x 13 = .int (zi ur)) (e3 : h.2.2.2.2 x 8 = .int (zi bl)) (e4 : h.2.2.2.2 x 5 = .int (zi w)) (e5 : h.2.2.2.2 x 6 = .int (zi hh)) (e6 : h.2.2.2.2 x 10 = .int (zi gh)) (e7 : h.2.2.2.2 x 11 = .int (zi gv)) (e8 : h.2.2.2.2 b0 1 = .int (zi hb0)) (e9 : h.2.2.2.2 b0 2 = .int (zi vb0)) (e10 : h.2.2.2.2 b0 3 = .int (zi tq0)) (e11 : h.2.2.2.2 b0 4 = .int (zi C0)) (e12 : h.2.2.2.2 b0 5 = .int (zi R0)) (e13 : h.2.2.2.2 b0 6 = .int (zi oc0)) (e14 : h.2.2.2.2 b0 7 = .int (zi or0)) (e15 : h.2.2.2.2 b0 8 = .int (zi f0)) (e16 : h.2.2.2.2 b1 1 = .int (zi hb1)) (e17 : h.2.2.2.2 b1 2 = .int (zi vb1)) (e18 : h.2.2.2.2 b1 3 = .int (zi tq1)) (e19 : h.2.2.2.2 b1 4 = .int (zi C1)) (e20 : h.2.2.2.2 b1 5 = .int (zi R1)) (e21 : h.2.2.2.2 b1 6 = .int (zi oc1)) (e22 : h.2.2.2.2 b1 7 = .int (zi or1)) (e23 : h.2.2.2.2 b1 8 = .int (zi f1)) (e24 : h.2.2.2.2 b2 1 = .int (zi hb2)) (e25 : h.2.2.2.2 b2 2 = .int (zi vb2)) (e26 : h.2.2.2.2 b2 3 = .int (zi tq2)) (e27 : h.2.2.2.2 b2 4 = .int (zi C2)) (e28 : h.2.2.2.2 b2 5 = .int (zi R2)) (e29 : h.2.2.2.2 b2 6 = .int (zi oc2)) (e30 : h.2.2.2.2 b2 7 = .int (zi or2)) (e31 : h.2.2.2.2 b2 8 = .int (zi f2)) (r0 : 0 ≤ cn ∧ cn ≤ 3) (r1 : 0 ≤ uc ∧ uc ≤ 8) (r2 : 0 ≤ ur ∧ ur ≤ 8) (r3 : 0 ≤ bl ∧ bl ≤ 192) (r4 : 0 ≤ w ∧ w ≤ 64) (r5 : 0 ≤ hh ∧ hh ≤ 64) (r6 : 1 ≤ gh ∧ gh ≤ 2) (r7 : 1 ≤ gv ∧ gv ≤ 2) (r8 : (-1) ≤ hb0 ∧ hb0 ≤ 15) (r9 : 0 ≤ vb0 ∧ vb0 ≤ 15) (r10 : (-1) ≤ tq0 ∧ tq0 ≤ 255) (r11 : 0 ≤ C0 ∧ C0 ≤ 16) (r12 : 0 ≤ R0 ∧ R0 ≤ 16) (r13 : 0 ≤ oc0 ∧ oc0 ≤ 16) (r14 : 0 ≤ or0 ∧ or0 ≤ 16) (r15 : 0 ≤ f0 ∧ f0 ≤ 192) (r16 : (-1) ≤ hb1 ∧ hb1 ≤ 15) (r17 : 0 ≤ vb1 ∧ vb1 ≤ 15) (r18 : (-1) ≤ tq1 ∧ tq1 ≤ 255) (r19 : 0 ≤ C1 ∧ C1 ≤ 16) (r20 : 0 ≤ R1 ∧ R1 ≤ 16) (r21 : 0 ≤ oc1 ∧ oc1 ≤ 16) (r22 : 0 ≤ or1 ∧ or1 ≤ 16) (r23 : 0 ≤ f1 ∧ f1 ≤ 192) (r24 : (-1) ≤ hb2 ∧ hb2 ≤ 15) (r25 : 0 ≤ vb2 ∧ vb2 ≤ 15) (r26 : (-1) ≤ tq2 ∧ tq2 ≤ 255) (r27 : 0 ≤ C2 ∧ C2 ≤ 16) (r28 : 0 ≤ R2 ∧ R2 ≤ 16) (r29 : 0 ≤ oc2 ∧ oc2 ≤ 16) (r30 : 0 ≤ or2 ∧ or2 ≤ 16) (r31 : 0 ≤ f2 ∧ f2 ≤ 192) (y0 : (0 < cn → gPq uc ur hb0 vb0 C0 R0 oc0 or0 f0 bl)) (y1 : (1 < cn → gPq uc ur hb1 vb1 C1 R1 oc1 or1 f1 bl)) (y2 : (2 < cn → gPq uc ur hb2 vb2 C2 R2 oc2 or2 f2 bl)) (y3 : (0 < cn → (hb0 ≤ gh ∧ vb0 ≤ gv ∧ 0 ≤ tq0 ∧ tq0 ≤ 3))) (y4 : (1 < cn → (hb1 ≤ gh ∧ vb1 ≤ gv ∧ 0 ≤ tq1 ∧ tq1 ≤ 3))) (y5 : (2 < cn → (hb2 ≤ gh ∧ vb2 ≤ gv ∧ 0 ≤ tq2 ∧ tq2 ≤ 3))) (y6 : (cn = 0 → (bl = 0 ∧ w = 0))) (y7 : (0 < cn → (uc = zup w (8 * gh) ∧ ur = zup hh (8 * gv) ∧ 1 ≤ w ∧ 1 ≤ hh))) (l0 : bl * 64 ≤ (h.2.2.2.1 co : Int)) (l1 : bl ≤ (h.2.2.2.1 dm : Int)) (l2 : (h.2.2.2.1 co : Int) = 64 * (h.2.2.2.1 dm : Int)) (l3 : (h.2.2.2.1 dm : Int) = ld) : gPC ty x b0 b1 b2 ld h :=
  ⟨t, bn, co, dm, gPCv cn uc ur bl w hh gh gv hb0 vb0 tq0 C0 R0 oc0 or0 f0 hb1 vb1 tq1 C1 R1 oc1 or1 f1 hb2 vb2 tq2 C2 R2 oc2 or2 f2, tt, er, List.forall_mem_cons.mpr ⟨e0, List.forall_mem_cons.mpr ⟨e1, List.forall_mem_cons.mpr ⟨e2, List.forall_mem_cons.mpr ⟨e3, List.forall_mem_cons.mpr ⟨e4, List.forall_mem_cons.mpr ⟨e5, List.forall_mem_cons.mpr ⟨e6, List.forall_mem_cons.mpr ⟨e7, List.forall_mem_cons.mpr ⟨e8, List.forall_mem_cons.mpr ⟨e9, List.forall_mem_cons.mpr ⟨e10, List.forall_mem_cons.mpr ⟨e11, List.forall_mem_cons.mpr ⟨e12, List.forall_mem_cons.mpr ⟨e13, List.forall_mem_cons.mpr ⟨e14, List.forall_mem_cons.mpr ⟨e15, List.forall_mem_cons.mpr ⟨e16, List.forall_mem_cons.mpr ⟨e17, List.forall_mem_cons.mpr ⟨e18, List.forall_mem_cons.mpr ⟨e19, List.forall_mem_cons.mpr ⟨e20, List.forall_mem_cons.mpr ⟨e21, List.forall_mem_cons.mpr ⟨e22, List.forall_mem_cons.mpr ⟨e23, List.forall_mem_cons.mpr ⟨e24, List.forall_mem_cons.mpr ⟨e25, List.forall_mem_cons.mpr ⟨e26, List.forall_mem_cons.mpr ⟨e27, List.forall_mem_cons.mpr ⟨e28, List.forall_mem_cons.mpr ⟨e29, List.forall_mem_cons.mpr ⟨e30, List.forall_mem_cons.mpr ⟨e31, (fun _ hx => by cases hx)⟩⟩⟩⟩⟩⟩⟩⟩⟩⟩⟩⟩⟩⟩⟩⟩⟩⟩⟩⟩⟩⟩⟩⟩⟩⟩⟩⟩⟩⟩⟩⟩, List.forall_mem_cons.mpr ⟨r0, List.forall_mem_cons.mpr ⟨r1, List.forall_mem_cons.mpr ⟨r2, List.forall_mem_cons.mpr ⟨r3, List.forall_mem_cons.mpr ⟨r4, List.forall_mem_cons.mpr ⟨r5, List.forall_mem_cons.mpr ⟨r6, List.forall_mem_cons.mpr ⟨r7, List.forall_mem_cons.mpr ⟨r8, List.forall_mem_cons.mpr ⟨r9, List.forall_mem_cons.mpr ⟨r10, List.forall_mem_cons.mpr ⟨r11, List.forall_mem_cons.mpr ⟨r12, List.forall_mem_cons.mpr ⟨r13, List.forall_mem_cons.mpr ⟨r14, List.forall_mem_cons.mpr ⟨r15, List.forall_mem_cons.mpr ⟨r16, List.forall_mem_cons.mpr ⟨r17, List.forall_mem_cons.mpr ⟨r18, List.forall_mem_cons.mpr ⟨r19, List.forall_mem_cons.mpr ⟨r20, List.forall_mem_cons.mpr ⟨r21, List.forall_mem_cons.mpr ⟨r22, List.forall_mem_cons.mpr ⟨r23, List.forall_mem_cons.mpr ⟨r24, List.forall_mem_cons.mpr ⟨r25, List.forall_mem_cons.mpr ⟨r26, List.forall_mem_cons.mpr ⟨r27, List.forall_mem_cons.mpr ⟨r28, List.forall_mem_cons.mpr ⟨r29, List.forall_mem_cons.mpr ⟨r30, List.forall_mem_cons.mpr ⟨r31, (fun _ hx => by cases hx)⟩⟩⟩⟩⟩⟩⟩⟩⟩⟩⟩⟩⟩⟩⟩⟩⟩⟩⟩⟩⟩⟩⟩⟩⟩⟩⟩⟩⟩⟩⟩⟩, ⟨y0, y1, y2, y3, y4, y5, y6, y7⟩, l0, l1, l2, l3⟩
theorem gPC.zero {ty : Nat → Nat} {x bn b0 b1 b2 co dm : Nat} {ld : Int} {h : gH} (hJ : gJ rT 1027 ty h) (t0 : ty x = 54) (e0 : h.2.2.2.2 x 0 = .ref bn) (tbn : ty bn = 57) (e1 : h.2.2.2.2 bn 0 = .ref b0) (t1 : ty b0 = 82) (e2 : h.2.2.2.2 bn 1 = .ref b1) (t2 : ty b1 = 83) (e3 : h.2.2.2.2 bn 2 = .ref b2) (t3 : ty b2 = 84) (e4 : h.2.2.2.2 x 2 = .ref co) (tco : ty co = 112) (e5 : h.2.2.2.2 x 3 = .ref dm) (tdm : ty dm = 113) (ec : h.2.2.2.2 x 7 = .int (zi 0)) (bl : Int) (eb : h.2.2.2.2 x 8 = .int (zi bl)) (rb : bl = 0) (w : Int) (iw : h.2.2.2.2 x 5 = .int (zi w)) (jw : w = 0) (l0 : bl * 64 ≤ (h.2.2.2.1 co : Int)) (l1 : bl ≤ (h.2.2.2.1 dm : Int)) (l2 : (h.2.2.2.1 co : Int) = 64 * (h.2.2.2.1 dm : Int)) (l3 : (h.2.2.2.1 dm : Int) = ld) : gPC ty x b0 b1 b2 ld h := by
  obtain ⟨uc, iuc, juc⟩ := gJ.int (k := 12) (G := gGG) hJ t0 rfl rfl rfl
  obtain ⟨ur, iur, jur⟩ := gJ.int (k := 13) (G := gGG) hJ t0 rfl rfl rfl
  obtain ⟨hh, ihh, jhh⟩ := gJ.int (k := 6) (G := gGG) hJ t0 rfl rfl rfl
  obtain ⟨gh, igh, jgh⟩ := gJ.int (k := 10) (G := gGG) hJ t0 rfl rfl rfl
  obtain ⟨gv, igv, jgv⟩ := gJ.int (k := 11) (G := gGG) hJ t0 rfl rfl rfl
  obtain ⟨hb0, ihb0, jhb0⟩ := gJ.int (k := 1) (G := gGG) hJ t1 rfl rfl rfl
  obtain ⟨vb0, ivb0, jvb0⟩ := gJ.int (k := 2) (G := gGG) hJ t1 rfl rfl rfl
  obtain ⟨tq0, itq0, jtq0⟩ := gJ.int (k := 3) (G := gGG) hJ t1 rfl rfl rfl
  obtain ⟨C0, iC0, jC0⟩ := gJ.int (k := 4) (G := gGG) hJ t1 rfl rfl rfl
  obtain ⟨R0, iR0, jR0⟩ := gJ.int (k := 5) (G := gGG) hJ t1 rfl rfl rfl
  obtain ⟨oc0, ioc0, joc0⟩ := gJ.int (k := 6) (G := gGG) hJ t1 rfl rfl rfl
  obtain ⟨or0, ior0, jor0⟩ := gJ.int (k := 7) (G := gGG) hJ t1 rfl rfl rfl
  obtain ⟨f0, if0, jf0⟩ := gJ.int (k := 8) (G := gGG) hJ t1 rfl rfl rfl
  obtain ⟨hb1, ihb1, jhb1⟩ := gJ.int (k := 1) (G := gGG) hJ t2 rfl rfl rfl
  obtain ⟨vb1, ivb1, jvb1⟩ := gJ.int (k := 2) (G := gGG) hJ t2 rfl rfl rfl
  obtain ⟨tq1, itq1, jtq1⟩ := gJ.int (k := 3) (G := gGG) hJ t2 rfl rfl rfl
  obtain ⟨C1, iC1, jC1⟩ := gJ.int (k := 4) (G := gGG) hJ t2 rfl rfl rfl
  obtain ⟨R1, iR1, jR1⟩ := gJ.int (k := 5) (G := gGG) hJ t2 rfl rfl rfl
  obtain ⟨oc1, ioc1, joc1⟩ := gJ.int (k := 6) (G := gGG) hJ t2 rfl rfl rfl
  obtain ⟨or1, ior1, jor1⟩ := gJ.int (k := 7) (G := gGG) hJ t2 rfl rfl rfl
  obtain ⟨f1, if1, jf1⟩ := gJ.int (k := 8) (G := gGG) hJ t2 rfl rfl rfl
  obtain ⟨hb2, ihb2, jhb2⟩ := gJ.int (k := 1) (G := gGG) hJ t3 rfl rfl rfl
  obtain ⟨vb2, ivb2, jvb2⟩ := gJ.int (k := 2) (G := gGG) hJ t3 rfl rfl rfl
  obtain ⟨tq2, itq2, jtq2⟩ := gJ.int (k := 3) (G := gGG) hJ t3 rfl rfl rfl
  obtain ⟨C2, iC2, jC2⟩ := gJ.int (k := 4) (G := gGG) hJ t3 rfl rfl rfl
  obtain ⟨R2, iR2, jR2⟩ := gJ.int (k := 5) (G := gGG) hJ t3 rfl rfl rfl
  obtain ⟨oc2, ioc2, joc2⟩ := gJ.int (k := 6) (G := gGG) hJ t3 rfl rfl rfl
  obtain ⟨or2, ior2, jor2⟩ := gJ.int (k := 7) (G := gGG) hJ t3 rfl rfl rfl
  obtain ⟨f2, if2, jf2⟩ := gJ.int (k := 8) (G := gGG) hJ t3 rfl rfl rfl
  exact gPC.mk ⟨t0, t1, t2, t3⟩ ⟨tbn, tco, tdm⟩ ⟨e0, e1, e2, e3, e4, e5⟩ ec iuc iur eb iw ihh igh igv ihb0 ivb0 itq0 iC0 iR0 ioc0 ior0 if0 ihb1 ivb1 itq1 iC1 iR1 ioc1 ior1 if1 ihb2 ivb2 itq2 iC2 iR2 ioc2 ior2 if2 ⟨by omega, by omega⟩ juc jur ⟨by omega, by omega⟩ ⟨by omega, by omega⟩ jhh jgh jgv jhb0 jvb0 jtq0 jC0 jR0 joc0 jor0 jf0 jhb1 jvb1 jtq1 jC1 jR1 joc1 jor1 jf1 jhb2 jvb2 jtq2 jC2 jR2 joc2 jor2 jf2 (fun w9 => absurd w9 (by omega)) (fun w9 => absurd w9 (by omega)) (fun w9 => absurd w9 (by omega)) (fun w9 => absurd w9 (by omega)) (fun w9 => absurd w9 (by omega)) (fun w9 => absurd w9 (by omega)) (fun _ => ⟨rb, jw⟩) (fun w9 => absurd w9 (by omega)) l0 l1 l2 l3
