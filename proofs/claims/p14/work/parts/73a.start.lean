/-! ===== the start ===== -/
def gZl : List Int := [0, 1, 8, 16, 9, 2, 3, 10, 17, 24, 32, 25, 18, 11, 4, 5, 12, 19, 26, 33, 40, 48, 41, 34, 27, 20, 13, 6, 7, 14, 21, 28, 35, 42, 49, 56, 57, 50, 43, 36, 29, 22, 15, 23, 30, 37, 44, 51, 58, 59, 52, 45, 38, 31, 39, 46, 53, 60, 61, 54, 47, 55, 62, 63]
def gWl : List Int := [4096, 4017, 3784, 3406, 2896, 2276, 1567, 799, 0, -799, -1567, -2276, -2896, -3406, -3784, -4017, -4096, -4017, -3784, -3406, -2896, -2276, -1567, -799, 0, 799, 1567, 2276, 2896, 3406, 3784, 4017]
def gFl9 : List Cond := flatC (Jvm.Cond.and given_1 narrow_1)
set_option maxRecDepth 100000 in
theorem gZl_in : (List.range 64).all (fun j => decide (gFl9[220 + j]? = some (Cond.eq (.elem (.static "DctFilter" "ZIGZAG" "[I") (.int (Int32.ofNat j))) (.int (zi (gZl.getD j 0)))))) = true := by decide +kernel
set_option maxRecDepth 100000 in
theorem gWl_in : (List.range 32).all (fun j => decide (gFl9[287 + j]? = some (Cond.eq (.elem (.static "DctFilter" "WAVE" "[I") (.int (Int32.ofNat j))) (.int (zi (gWl.getD j 0)))))) = true := by decide +kernel
theorem gZl_r : ∀ i : Fin 64, 0 ≤ gZl.getD i.val 0 ∧ gZl.getD i.val 0 ≤ 63 := by decide
theorem gWl_r : ∀ i : Fin 32, -4096 ≤ gWl.getD i.val 0 ∧ gWl.getD i.val 0 ≤ 4096 := by decide
theorem gany_in {l : List Cond} {w : Cond} (h : l.any (fun v => decide (v = w)) = true) : w ∈ l := by
  obtain ⟨v, hv, e⟩ := List.any_eq_true.mp h
  exact (of_decide_eq_true e) ▸ hv
/-- a static array of ints, out of what the Statement gives -/
theorem gst_of {s : State} {args : Array Value} {nm : String} {N : Nat} {f : Nat → Int} (hN : N < 2 ^ 31) (hs : ∀ w ∈ gFl9, w.before args s = true) (h1 : Cond.arrayOf (.static "DctFilter" nm "[I") .int ∈ gFl9) (h2 : Cond.eq (.length (.static "DctFilter" nm "[I")) (.int (Int32.ofNat N)) ∈ gFl9) (h3 : ∀ j, j < N → Cond.eq (.elem (.static "DctFilter" nm "[I") (.int (Int32.ofNat j))) (.int (zi (f j))) ∈ gFl9) :
    ∃ t : Nat, (Term.static "DctFilter" nm "[I").eval args s none [] s = some (.ref t) ∧ va_T .int t N (fun j => .int (zi (f j))) (fun q => s.heap.size ≤ q) s s.heap :=
  va_Tof hN (hs _ h1) (va_eqt (hs _ h2)) (fun j hj => va_eqt (hs _ (h3 j hj))) (fun a ha => Nat.not_le.mpr ha)
theorem nwall {s : State} {args : Array Value} {ws : List Cond} (hts : ∀ w ∈ lw_tbl, w.before args s = true) (h : ws.all (fun w => w.onTables && lw_tbl.any (fun v => decide (v = w))) = true) : ∀ w ∈ ws, va_Nw w s := fun w hw => by
  have h1 := List.all_eq_true.mp h w hw
  rw [Bool.and_eq_true] at h1
  exact va_Nw.of h1.1 (hts w (gany_in h1.2))
/-- the addresses -/
def gadr (z w b B : Nat) : Nat → Nat := fun a => if a = 1 then w else if a = 2 then b else if a < 1027 then z else B + (a - 1027)
/-- the heap at the start -/
def gh0 (L : Nat) (xs : Nat → Int32) : gH := (1027, 4096, fun a => if a < 1027 then some (.inl 0) else none, fun a => if a = 1 then 32 else if a = 2 then L else 64, fun a k => if a = 1 then .int (zi (gWl.getD k 0)) else if a = 2 then .int (xs k) else .int (zi (gZl.getD k 0)))
def gty0 : Nat → Nat := fun a => if a = 2 then 200 else 0
theorem gadr_ok {z w b B : Nat} (hz : z < B) (hw : w < B) (hb : b < B) : gAd (gadr z w b B) B 1027 := by
  refine ⟨fun a ha => ?_, fun k => ?_⟩
  · unfold gadr
    split
    · exact hw
    · split
      · exact hb
      · first | exact hz | (rw [if_pos ha]; exact hz)
  · unfold gadr
    rw [if_neg (by omega), if_neg (by omega), if_neg (by omega)]
    omega
theorem gty0_J {L : Nat} {xs : Nat → Int32} : gJ rT 1027 gty0 (gh0 L xs) := by
  intro c r hc
  unfold gty0 at hc
  split at hc
  · have h9 : rT 200 = none := rfl
    rw [h9] at hc
    cases hc
  · have h9 : rT 0 = none := rfl
    rw [h9] at hc
    cases hc
theorem gty0_uq : gUq gty0 := by
  intro a b _ h1 h2
  unfold gty0 at h1 h2
  split at h1
  · rename_i e
    rw [if_pos e] at h2
    omega
  · omega
theorem gty0_no (l : List Nat) (h : ¬ 0 ∈ l ∧ ¬ 200 ∈ l) : gNo l gty0 := by
  intro c
  unfold gty0
  split
  · exact h.2
  · exact h.1
theorem gh0_sta {L : Nat} {xs : Nat → Int32} : gSta gty0 (gh0 L xs) := by
  refine ⟨rfl, rfl, Nat.le_refl _, rfl, rfl, rfl, rfl, fun i hi => ⟨gZl.getD i 0, rfl, gZl_r ⟨i, hi⟩⟩, fun i hi => ⟨gWl.getD i 0, rfl, gWl_r ⟨i, hi⟩⟩⟩
theorem gZl_x : ∀ n : Fin 64, gZl.getD n.val 0 = eZz (n.val : Int) := by decide +kernel
theorem gWl_x : ∀ n : Fin 32, gWl.getD n.val 0 = eWv (n.val : Int) := by decide +kernel
theorem gh0_stx {L : Nat} {xs : Nat → Int32} : gStx gty0 (gh0 L xs) := by
  refine ⟨gh0_sta, fun i hi => ?_, fun i hi => ?_⟩
  · show Value.int (zi (gZl.getD i 0)) = _
    rw [gZl_x ⟨i, hi⟩]
  · show Value.int (zi (gWl.getD i 0)) = _
    rw [gWl_x ⟨i, hi⟩]
theorem gh0_scr {L : Nat} {xs : Nat → Int32} (hL : L ≤ 2048) : gScr gty0 (L : Int) (fun k => (xs k).toInt) (gh0 L xs) := by
  refine ⟨rfl, Nat.le_refl _, rfl, rfl, ⟨by omega, by omega⟩, fun k _ => ?_, fun k => ⟨(zr_to (xs k)).1, by show (xs k).toInt ≤ 2147483647; have := (zr_to (xs k)).2; omega⟩⟩
  show Value.int (xs k) = .int (zi (xs k).toInt)
  rw [zi_to]
set_option maxRecDepth 100000 in
theorem gh0_R {D : gD} {s : State} {z w b L : Nat} {xs : Nat → Int32} (hz : va_T .int z 64 (fun j => .int (zi (gZl.getD j 0))) (fun q => s.heap.size ≤ q) s s.heap) (hw : va_T .int w 32 (fun j => .int (zi (gWl.getD j 0))) (fun q => s.heap.size ≤ q) s s.heap) (hx : va_X b L xs s s.heap) : gRp D gcl (gadr z w b s.heap.size) s.heap.size 1027 s (gh0 L xs) s.heap := by
  refine ⟨by show s.heap.size = s.heap.size + (1027 - 1027); omega, Nat.le_refl _, fun a h1 h2 => absurd h2 (Nat.not_lt.mpr h1), fun a ha => ⟨if_pos ha, ?_⟩⟩
  obtain ⟨cz, z1, z2, z3, z4, z5, z6, -⟩ := hz
  obtain ⟨cw, w1, w2, w3, w4, w5, w6, -⟩ := hw
  obtain ⟨cx, x1, x2, x3, x4, x5⟩ := hx
  by_cases e1 : a = 1
  · subst e1
    exact ⟨cw, w1, w2, w3, w4, w5, fun j hj => w6 j hj⟩
  · by_cases e2 : a = 2
    · subst e2
      exact ⟨cx, x1, x2, x3, Nat.le_of_eq x4.symm, by rw [x4]; rfl, fun j hj => x5 j hj⟩
    · have a1 : gadr z w b s.heap.size a = z := by unfold gadr; rw [if_neg e1, if_neg e2, if_pos ha]
      have a2 : (gh0 L xs).2.2.2.1 a = 64 := by show (if a = 1 then 32 else if a = 2 then L else 64) = 64; rw [if_neg e1, if_neg e2]
      have a3 : ∀ j, (gh0 L xs).2.2.2.2 a j = .int (zi (gZl.getD j 0)) := fun j => by show (if a = 1 then Value.int (zi (gWl.getD j 0)) else if a = 2 then .int (xs j) else .int (zi (gZl.getD j 0))) = _; rw [if_neg e1, if_neg e2]
      rw [a1, a2]
      exact ⟨cz, z1, z2, z3, z4, z5, fun j hj => by rw [a3]; exact z6 j hj⟩
/-- classes' and arrays' numbers -/
theorem gKn_of {s : State} {args : Array Value} (hts : ∀ w ∈ gGT, w.before args s = true) (hin : ∀ (ci : Nat) (q : vw_C), gcl[ci]? = some q → ∃ n, Cond.instantiable q.1 n ∈ gGT) (ha : ∀ (t : Nat) (ty : FieldType), gtys[t]? = some ty → ∃ cA : ClassId, ArrOfT s cA ty ∧ va_RA s cA ty) : ∃ D : gD, gKn D gcl gtys s := by
  have k1 : ∀ ci : Nat, ∃ r : ClassId × (Nat → Nat), ∀ q : vw_C, gcl[ci]? = some q → u_Kn s q.1 q.2.1 q.2.2 r.1 r.2 := fun ci => by
    cases hq : gcl[ci]? with
    | none => exact ⟨(0, fun _ => 0), fun q h => by cases h⟩
    | some q =>
      obtain ⟨n, hn⟩ := hin ci q hq
      obtain ⟨cC, iS, h⟩ := u_known hts (gcl_ok ci q hq).1 (hts _ hn)
      exact ⟨(cC, iS), fun q' h' => by cases h'; exact h⟩
  have k2 : ∀ t : Nat, ∃ cA : ClassId, ∀ ty : FieldType, gtys[t]? = some ty → ArrOfT s cA ty ∧ va_RA s cA ty := fun t => by
    cases hq : gtys[t]? with
    | none => exact ⟨0, fun q h => by cases h⟩
    | some ty =>
      obtain ⟨cA, h⟩ := ha t ty hq
      exact ⟨cA, fun q' h' => by cases h'; exact h⟩
  exact ⟨((fun ci => (k1 ci).choose.1, fun ci => (k1 ci).choose.2), fun t => (k2 t).choose), fun ci q hq => (k1 ci).choose_spec q hq, fun t ty ht => (k2 t).choose_spec ty ht⟩
theorem garr_p {s : State} {args : Array Value} {ty : FieldType} (hn : ∀ C, ty ≠ .object C) (h : (Cond.arrayClass ty).before args s = true) : ∃ cA : ClassId, ArrOfT s cA ty ∧ va_RA s cA ty := by
  obtain ⟨cA, kA, comp, h1, h2, h3⟩ := Cond.arrayClass_spec h
  refine ⟨cA, fun n z => ⟨fun k h => (by cases h), kA, h2, comp, h3⟩, ?_⟩
  cases ty with
  | object C => exact absurd rfl (hn C)
  | _ => exact h1
theorem garr_o {s : State} {args : Array Value} {C : String} (h : (Cond.arrayOver (.object C)).before args s = true) : ∃ cA : ClassId, ArrOfT s cA (.object C) ∧ va_RA s cA (.object C) := by
  obtain ⟨comp, cA, kA, h1, -, h2, h3, h4⟩ := Cond.arrayOver_spec h
  exact ⟨cA, fun n z => ⟨fun k h => (by cases h), kA, h2, comp, h3⟩, kA, comp, h2, h3, h1, h4⟩
set_option maxRecDepth 100000 in
theorem gin_of : ∀ (ci : Nat) (q : vw_C), gcl[ci]? = some q → ∃ n, Cond.instantiable q.1 n ∈ gGT := by
  intro ci q hq
  have h9 : (gcl.all (fun q => gGT.any (fun w => match w with | .instantiable C _ => decide (C = q.1) | _ => false))) = true := by decide +kernel
  have h8 := List.all_eq_true.mp h9 q (List.mem_of_getElem? hq)
  obtain ⟨w, hw, e⟩ := List.any_eq_true.mp h8
  split at e
  · rename_i C n
    have e2 := of_decide_eq_true e
    subst e2
    exact ⟨_, hw⟩
  · cases e
theorem gstr_of {s : State} {args : Array Value} {own tx : String} {k : Nat} (h1 : (Cond.stringRef own k tx).before args s = true) (h2 : (Cond.exactly (.string own k) "java/lang/String").before args s = true) : ∃ sa, vk_R own k tx sa s := by
  obtain ⟨a, c, cell, kc, e, -⟩ := Cond.exactly_spec h2
  exact ⟨a, vk_R.of h1 e⟩
set_option maxRecDepth 100000 in
theorem gstr_in : gVV.1.all (fun q => lw_tbl.any (fun v => decide (v = Cond.stringRef q.1 q.2.1 q.2.2)) && gFl9.any (fun v => decide (v = Cond.exactly (.string q.1 q.2.1) "java/lang/String"))) = true := by decide +kernel
set_option maxRecDepth 100000 in
theorem gcas_in : (gVV.2.1.map (fun q => Cond.castable q.1 q.2)).all (fun w => w.onTables && lw_tbl.any (fun v => decide (v = w))) = true := by decide +kernel
set_option maxRecDepth 100000 in
theorem gnoc_in : gVV.2.2.1.all (fun q => gFl9.any (fun v => decide (v = Cond.not (.castable q.1 q.2)))) = true := by decide +kernel
set_option maxRecDepth 100000 in
theorem gfn_in : (gXX.2.1.map (fun q => Cond.fieldLinkNest q.1 q.2.1 q.2.2.1 q.2.2.2.1 q.2.2.2.2.1 q.2.2.2.2.2)).all (fun w => w.onTables && lw_tbl.any (fun v => decide (v = w))) = true := by decide +kernel
set_option maxRecDepth 100000 in
theorem gmn_in : (gXX.2.2.1.map (fun q => Cond.methodLinkNest q.1 q.2.1 q.2.2.1 q.2.2.2)).all (fun w => w.onTables && lw_tbl.any (fun v => decide (v = w))) = true := by decide +kernel
set_option maxRecDepth 100000 in
theorem gao_in : gXX.2.2.2.all (fun C => lw_tbl.any (fun v => decide (v = Cond.arrayOver (.object C)))) = true := by decide +kernel
set_option maxRecDepth 100000 in
theorem gdec_in : (gVV.2.2.2.map Cond.declares).all (fun w => w.onTables && lw_tbl.any (fun v => decide (v = w))) = true := by decide +kernel
