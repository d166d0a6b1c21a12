/-! ===== the pure machine, VII: arraycopy; the run ===== -/
def gcpM (M : Nat → Nat → Value) (a b sp dp n : Nat) : Nat → Nat → Value := fun c j => if c = a then (if dp ≤ j ∧ j < dp + n then M b (sp + (j - dp)) else M a j) else M c j
def gprim (ty : FieldType) (v : Value) : Bool := match v with
  | .int _ => fits ty v
  | .long _ => fits ty v
  | _ => false
def gcopy (G : gG) (S : List Value) (h : gH) : Option (List Value × gH) := match S with
  | .int n :: .int dp :: .ref a :: .int sp :: .ref b :: rest => match h.2.2.1 a, h.2.2.1 b with
    | some (.inl t), some (.inl t') => match G.1[t]? with
      | some ty => if t = t' ∧ t < 4 ∧ G.2.2.2.2 ≤ a ∧ G.2.2.2.2 ≤ b ∧ a < h.1 ∧ b < h.1 ∧ 0 ≤ sp ∧ 0 ≤ dp ∧ 0 ≤ n ∧ sp.toNatClampNeg + n.toNatClampNeg ≤ h.2.2.2.1 b ∧ dp.toNatClampNeg + n.toNatClampNeg ≤ h.2.2.2.1 a ∧ gsum rest ≤ 8 ∧ (List.range n.toNatClampNeg).all (fun i => gprim ty (h.2.2.2.2 b (sp.toNatClampNeg + i))) = true
        then some (rest, (h.1, h.2.1, h.2.2.1, h.2.2.2.1, gcpM h.2.2.2.2 a b sp.toNatClampNeg dp.toNatClampNeg n.toNatClampNeg)) else none
      | none => none
    | _, _ => none
  | _ => none
section GC
variable {p : Program} {l : Launch} {e : Env} {R : Room} {s : State} {m : MethodId} {args : Array Value} {below : List Frame} {meth : Method} {c : Code} {H : Heap} {locs : List Loc} {cells slots : Nat} {Q : State → Prop}
variable {cc : ByteArray} {pc : Nat} {ls : Array Slot} {S S' : List Value}
variable {D : gD} {cl : List vw_C} {G : gG} {ad : Nat → Nat} {B : Nat} {h h' : gH}
theorem gRp.all {n0 : Nat} (hA : gAd ad B n0) (hR : gRp D cl ad B n0 s h H) {M : Nat → Nat → Value} {a t : Nat} {H1 : Heap} (ha0 : n0 ≤ a) (ht : h.2.2.1 a = some (.inl t)) (hM : ∀ b, b ≠ a → ∀ j, M b j = h.2.2.2.2 b j)
    (e1 : H1[ad a]? = some (arrV (D.2 t) (h.2.2.2.1 a) (fun j => gtv ad (M a j)))) (e2 : H1.size = H.size) (e3 : ∀ q, q ≠ ad a → H1[q]? = H[q]?) : gRp D cl ad B n0 s (h.1, h.2.1, h.2.2.1, h.2.2.2.1, M) H1 := by
  refine ⟨e2.trans hR.1, hR.2.1, fun b hb0 hb => ?_, hR.2.2.2.kept (fun b hb => ⟨rfl, rfl, hM b (by omega)⟩) (fun b hb => e3 _ (hA.ne ha0 (by omega)))⟩
  by_cases hba : b = a
  · subst hba
    unfold gAt
    show match h.2.2.1 b with
      | none => True
      | some (.inl t) => H1[ad b]? = some (arrV (D.2 t) (h.2.2.2.1 b) (fun j => gtv ad (M b j)))
      | some (.inr ci) => ∃ r : vw_C, cl[ci]? = some r ∧ t_OB (ad b) (D.1.1 ci) r.2.2 (D.1.2 ci) H1 (fun k => gtv ad (M b k))
    rw [ht]
    exact e1
  · have g1 := (hR.2.2.1 b hb0 hb).kept (e3 _ (hA.ne ha0 hba))
    unfold gAt at g1 ⊢
    have e : (fun j => gtv ad (M b j)) = (fun j => gtv ad (h.2.2.2.2 b j)) := by
      funext j
      rw [hM b hba]
    show match h.2.2.1 b with
      | none => True
      | some (.inl t) => H1[ad b]? = some (arrV (D.2 t) (h.2.2.2.1 b) (fun j => gtv ad (M b j)))
      | some (.inr ci) => ∃ r : vw_C, cl[ci]? = some r ∧ t_OB (ad b) (D.1.1 ci) r.2.2 (D.1.2 ci) H1 (fun k => gtv ad (M b k))
    rw [e]
    exact g1
theorem gnn32 (z : Int32) (hz : 0 ≤ z) : z.toInt = (z.toNatClampNeg : Int) := by
  have hz0 : (0 : Int) ≤ z.toInt := by simpa using Int32.le_iff_toInt_le.mp hz
  show z.toInt = ((z.toInt.toNat : Nat) : Int)
  omega
theorem gw_copy (hx : p.tables.exec = Jvm.exec) (hb : c.code = cc) (hml : c.maxLocals = ls.size) {own : String} {index : Nat} (hown : s.vm.findClass own = some m.cls) (hlink : (Cond.methodLink own index arraycopyName).before args s = true) (hnat : (Cond.native arraycopyName).before args s = true) (hstat : (Cond.static arraycopyName).before args s = true) (hini : (Cond.initialized "java/lang/System").before args s = true)
    (hK : gKn D cl G.1 s) (hA : gAd ad B G.2.2.2.2) (hT4 : ∀ t, t < 4 → ∃ ty, G.1[t]? = some ty ∧ refKind ty = false) (hR : gRp D cl ad B G.2.2.2.2 s h H) (hS : va_S (fun q => B ≤ q) s.heap H locs) (g : gcopy G S h = some (S', h'))
    (hframes : 1 ≤ R.frames) (hlocals : 8 + (nativeFrameWords "java/lang/System" "arraycopy" 5 + 11) ≤ R.locals) (hd : decode cc pc = .ok (.invokestatic index, 3))
    (kk : ∀ (H' : Heap) (locs' : List Loc), gRp D cl ad B G.2.2.2.2 s h' H' → va_S (fun q => B ≤ q) s.heap H' locs' → W p l e R s m args below meth c H' locs' cells slots Q (F0 m (pc + 3) ls (S'.map (gtv ad)))) :
    W p l e R s m args below meth c H locs cells slots Q (F0 m pc ls (S.map (gtv ad))) := by
  unfold gcopy at g
  split at g
  · rename_i n dp a sp b rest
    split at g
    · rename_i t t' hta htb
      split at g
      · rename_i ty hty
        split at g
        · rename_i hn
          obtain ⟨rfl, ht4, ha0, hb0, ha1, hb1, h1, h2, h3, h4, h5, h6, h7⟩ := hn
          cases g
          obtain ⟨ty', hty', hpr⟩ := hT4 t ht4
          rw [hty] at hty'
          cases hty'
          have hn1 : ¬ sp < 0 := Int32.not_lt.mpr h1
          have hn2 : ¬ dp < 0 := Int32.not_lt.mpr h2
          have hn3 : ¬ n < 0 := Int32.not_lt.mpr h3
          intro T hT X
          have hc0 := hR.arr hb0 hb1 htb
          have hc1 := hR.arr ha0 ha1 hta
          obtain ⟨-, k0, hk0, cm0, hkk0⟩ := (hK.2 t _ hty).1 (h.2.2.2.1 b) (fun j => gtv ad (h.2.2.2.2 b j))
          obtain ⟨-, k1, hk1, cm1, hkk1⟩ := (hK.2 t _ hty).1 (h.2.2.2.1 a) (fun j => gtv ad (h.2.2.2.2 a j))
          obtain ⟨vm', X', step⟩ := X.arraycopy hx hown hlink hnat hstat hini (src := ad b) (dst := ad a) (cs := arrV (D.2 t) (h.2.2.2.1 b) (fun j => gtv ad (h.2.2.2.2 b j))) (cd := arrV (D.2 t) (h.2.2.2.1 a) (fun j => gtv ad (h.2.2.2.2 a j))) (srcPos := sp) (destPos := dp) (n := n) (by rw [hT]; exact hc0) (by rw [hT]; exact hc1)
            (fun _ h => by cases h) (fun _ h => by cases h) (fun h => by cases h) (fun h => by cases h) hk0 hk1 hkk0 hkk1 (by simp [hpr]) hn1 hn2 hn3
            (by rw [gnn32 sp h1, gnn32 n h3, arrV_size]; omega)
            (by rw [gnn32 dp h2, gnn32 n h3, arrV_size]; omega)
            (fun vm₁ _ i hi => by
              have e : (arrV (D.2 t) (h.2.2.2.1 b) (fun j => gtv ad (h.2.2.2.2 b j))).slots.getD (sp.toNatClampNeg + i) .null = gtv ad (h.2.2.2.2 b (sp.toNatClampNeg + i)) := by
                rw [Array.getD_eq_getD_getElem?, arrV_read _ _ (by omega)]
                rfl
              have hp := List.all_eq_true.mp h7 i (List.mem_range.mpr hi)
              rw [e]
              cases hv : h.2.2.2.2 b (sp.toNatClampNeg + i) <;> rw [hv] at hp <;> simp only [gprim] at hp
              · exact ⟨hp, trivial⟩
              · exact ⟨hp, trivial⟩
              all_goals cases hp)
            (g := F0 m pc ls ((Value.int n :: Value.int dp :: Value.ref a :: Value.int sp :: Value.ref b :: S').map (gtv ad))) rfl (by rw [hml]) (rest := S'.map (gtv ad)) rfl (by rw [hb]; exact hd) hframes (by
              have e : ((S'.map (gtv ad)).map fun v => v.category).sum = gsum S' := by simp [gsum, gtv_cat, Function.comp_def]
              show 2 * 0 + ((S'.map (gtv ad)).map fun v => v.category).sum + _ ≤ _
              rw [e]
              omega)
          have e1 : copied (arrV (D.2 t) (h.2.2.2.1 b) (fun j => gtv ad (h.2.2.2.2 b j))) (arrV (D.2 t) (h.2.2.2.1 a) (fun j => gtv ad (h.2.2.2.2 a j))) sp dp n = arrV (D.2 t) (h.2.2.2.1 a) (fun j => gtv ad (gcpM h.2.2.2.2 a b sp.toNatClampNeg dp.toNatClampNeg n.toNatClampNeg a j)) := by
            refine (va_copied (gtv ad) (D.2 t) (D.2 t) (h.2.2.2.2 b) (h.2.2.2.2 a) h4).trans ?_
            congr 1
            funext j
            unfold va_cpy gcpM
            rw [if_pos rfl]
          rw [e1] at X' step
          have hl : ad a < H.size := (Array.getElem?_eq_some_iff.mp hc1).1
          generalize hcell9 : arrV (D.2 t) (h.2.2.2.1 a) (fun j => gtv ad (gcpM h.2.2.2.2 a b sp.toNatClampNeg dp.toNatClampNeg n.toNatClampNeg a j)) = cell9 at X' step
          have oq : ∀ (x : Cell) (q : Nat), q ≠ ad a → (H.setIfInBounds (ad a) x)[q]? = H[q]? := fun x q hq => by simp [Array.getElem?_setIfInBounds, Ne.symm hq]
          obtain ⟨t9, a9, b9⟩ := kk _ _ (hR.all hA ha0 hta (M := gcpM h.2.2.2.2 a b sp.toNatClampNeg dp.toNatClampNeg n.toNatClampNeg) (fun b' hb' j => by unfold gcpM; rw [if_neg hb']) (H1 := H.setIfInBounds (ad a) cell9) (by rw [hcell9]; simp [Array.getElem?_setIfInBounds, hl]) (by simp) (oq cell9)) ⟨by simp; exact hS.1, fun q g1 g2 => by
              rw [oq cell9 q (fun e => g2 (by rw [e]; show B ≤ _; rw [hA.hi ha0]; omega))]
              exact hS.2.1 q g1 g2, fun q hq => by
              rcases List.mem_append.mp hq with h | h
              · exact hS.2.2 q h
              · obtain ⟨z, -, hz⟩ := List.mem_map.mp h
                rw [← hz]
                show B ≤ ad a
                rw [hA.hi ha0]; omega⟩ _ (by rw [← hT]; rfl) X'
          exact ⟨t9, step t9 a9, b9⟩
        · cases g
      · cases g
    · cases g
  · cases g
end GC