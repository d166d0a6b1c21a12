/-! ===== the pure machine, IV: arrays, what is made ===== -/
section GA
variable {p : Program} {l : Launch} {e : Env} {R : Room} {s : State} {m : MethodId} {args : Array Value} {below : List Frame} {meth : Method} {c : Code} {H : Heap} {locs : List Loc} {cells slots : Nat} {Q : State → Prop}
variable {cc : ByteArray} {pc : Nat} {ls : Array Slot} {rest : List Value}
variable {D : gD} {cl : List vw_C} {tys : List FieldType} {ad : Nat → Nat} {B n0 : Nat} {h : gH} {Ts : List Cond} {own : String} {fty : Nat → Nat → FieldType}
theorem gRp.arr (hR : gRp D cl ad B n0 s h H) {a t : Nat} (ha0 : n0 ≤ a) (ha : a < h.1) (ht : h.2.2.1 a = some (.inl t)) : H[ad a]? = some (arrV (D.2 t) (h.2.2.2.1 a) (fun j => gtv ad (h.2.2.2.2 a j))) := by
  have hat := hR.2.2.1 a ha0 ha
  unfold gAt at hat
  rw [ht] at hat
  exact hat
theorem gRp.setA (hA : gAd ad B n0) (hR : gRp D cl ad B n0 s h H) {a k t : Nat} {v : Value} {H1 : Heap} (ha0 : n0 ≤ a) (ht : h.2.2.1 a = some (.inl t))
    (e1 : H1[ad a]? = some ((arrV (D.2 t) (h.2.2.2.1 a) (fun j => gtv ad (h.2.2.2.2 a j))).setSlot k (gtv ad v))) (e2 : H1.size = H.size) (e3 : ∀ q, q ≠ ad a → H1[q]? = H[q]?) : gRp D cl ad B n0 s (gput h a k v) H1 := by
  refine hR.set hA ha0 e2 e3 ?_
  unfold gAt
  rw [show (gput h a k v).2.2.1 a = some (.inl t) from ht]
  show H1[ad a]? = some (arrV (D.2 t) (h.2.2.2.1 a) (fun j => gtv ad (gup h.2.2.2.2 a k v a j)))
  rw [e1, arrV_store]
  congr 2
  funext j
  unfold updV gup
  rw [if_pos rfl]
  split <;> rfl
theorem gw_len (hx : p.tables.exec = Jvm.exec) (hb : c.code = cc) (hK : gKn D cl tys s) (hR : gRp D cl ad B n0 s h H) {a t : Nat} {ty : FieldType} (ha0 : n0 ≤ a) (ha : a < h.1) (ht : h.2.2.1 a = some (.inl t)) (hty : tys[t]? = some ty) (hd : decode cc pc = .ok (.arraylength, 1))
    (kk : W p l e R s m args below meth c H locs cells slots Q (F0 m (pc + 1) ls (.int (nI (h.2.2.2.1 a)) :: rest))) : W p l e R s m args below meth c H locs cells slots Q (F0 m pc ls (.ref (ad a) :: rest)) :=
  W.alen (n := nI (h.2.2.2.1 a)) hx hb (hR.arr ha0 ha ht) ((hK.2 t _ hty).1 _ _) (by rw [arrV_size] <;> rfl) rfl rfl hd kk

theorem gw_iald (hx : p.tables.exec = Jvm.exec) (hb : c.code = cc) (hK : gKn D cl tys s) (hR : gRp D cl ad B n0 s h H) {a t : Nat} {i : Int32} (ha0 : n0 ≤ a) (ha : a < h.1) (ht : h.2.2.1 a = some (.inl t)) (hty : tys[t]? = some (.int)) (hin : vp_in i (h.2.2.2.1 a)) (hd : decode cc pc = .ok (.iaload, 1))
    (kk : W p l e R s m args below meth c H locs cells slots Q (F0 m (pc + 1) ls (gtv ad (h.2.2.2.2 a i.toNatClampNeg) :: rest))) : W p l e R s m args below meth c H locs cells slots Q (F0 m pc ls (.int i :: .ref (ad a) :: rest)) :=
  W.iald (v := gtv ad (h.2.2.2.2 a i.toNatClampNeg)) hx hb (hR.arr ha0 ha ht) ((hK.2 t _ hty).1 _ _) (fun q => by cases q) (by rw [arrV_size]; exact hin) (by rw [arrV_read _ _ (Nat.not_le.mp fun q => hin (Or.inr q))]) rfl rfl hd kk

theorem gw_bald (hx : p.tables.exec = Jvm.exec) (hb : c.code = cc) (hK : gKn D cl tys s) (hR : gRp D cl ad B n0 s h H) {a t : Nat} {i : Int32} (ha0 : n0 ≤ a) (ha : a < h.1) (ht : h.2.2.1 a = some (.inl t)) (hty : tys[t]? = some (.byte)) (hin : vp_in i (h.2.2.2.1 a)) (hd : decode cc pc = .ok (.baload, 1))
    (kk : W p l e R s m args below meth c H locs cells slots Q (F0 m (pc + 1) ls (gtv ad (h.2.2.2.2 a i.toNatClampNeg) :: rest))) : W p l e R s m args below meth c H locs cells slots Q (F0 m pc ls (.int i :: .ref (ad a) :: rest)) :=
  W.bald (v := gtv ad (h.2.2.2.2 a i.toNatClampNeg)) hx hb (hR.arr ha0 ha ht) ((hK.2 t _ hty).1 _ _) (fun q => by cases q) (by rw [arrV_size]; exact hin) (by rw [arrV_read _ _ (Nat.not_le.mp fun q => hin (Or.inr q))]) rfl rfl hd kk

theorem gw_zald (hx : p.tables.exec = Jvm.exec) (hb : c.code = cc) (hK : gKn D cl tys s) (hR : gRp D cl ad B n0 s h H) {a t : Nat} {i : Int32} (ha0 : n0 ≤ a) (ha : a < h.1) (ht : h.2.2.1 a = some (.inl t)) (hty : tys[t]? = some (.boolean)) (hin : vp_in i (h.2.2.2.1 a)) (hd : decode cc pc = .ok (.baload, 1))
    (kk : W p l e R s m args below meth c H locs cells slots Q (F0 m (pc + 1) ls (gtv ad (h.2.2.2.2 a i.toNatClampNeg) :: rest))) : W p l e R s m args below meth c H locs cells slots Q (F0 m pc ls (.int i :: .ref (ad a) :: rest)) :=
  W.zald (v := gtv ad (h.2.2.2.2 a i.toNatClampNeg)) hx hb (hR.arr ha0 ha ht) ((hK.2 t _ hty).1 _ _) (fun q => by cases q) (by rw [arrV_size]; exact hin) (by rw [arrV_read _ _ (Nat.not_le.mp fun q => hin (Or.inr q))]) rfl rfl hd kk

theorem gw_lald (hx : p.tables.exec = Jvm.exec) (hb : c.code = cc) (hK : gKn D cl tys s) (hR : gRp D cl ad B n0 s h H) {a t : Nat} {i : Int32} (ha0 : n0 ≤ a) (ha : a < h.1) (ht : h.2.2.1 a = some (.inl t)) (hty : tys[t]? = some (.long)) (hin : vp_in i (h.2.2.2.1 a)) (hd : decode cc pc = .ok (.laload, 1))
    (kk : W p l e R s m args below meth c H locs cells slots Q (F0 m (pc + 1) ls (gtv ad (h.2.2.2.2 a i.toNatClampNeg) :: rest))) : W p l e R s m args below meth c H locs cells slots Q (F0 m pc ls (.int i :: .ref (ad a) :: rest)) :=
  W.lald (v := gtv ad (h.2.2.2.2 a i.toNatClampNeg)) hx hb (hR.arr ha0 ha ht) ((hK.2 t _ hty).1 _ _) (fun q => by cases q) (by rw [arrV_size]; exact hin) (by rw [arrV_read _ _ (Nat.not_le.mp fun q => hin (Or.inr q))]) rfl rfl hd kk

theorem gw_aald {C : String} (hx : p.tables.exec = Jvm.exec) (hb : c.code = cc) (hK : gKn D cl tys s) (hR : gRp D cl ad B n0 s h H) {a t : Nat} {i : Int32} (ha0 : n0 ≤ a) (ha : a < h.1) (ht : h.2.2.1 a = some (.inl t)) (hty : tys[t]? = some (.object C)) (hin : vp_in i (h.2.2.2.1 a)) (hd : decode cc pc = .ok (.aaload, 1))
    (kk : W p l e R s m args below meth c H locs cells slots Q (F0 m (pc + 1) ls (gtv ad (h.2.2.2.2 a i.toNatClampNeg) :: rest))) : W p l e R s m args below meth c H locs cells slots Q (F0 m pc ls (.int i :: .ref (ad a) :: rest)) :=
  W.aald (v := gtv ad (h.2.2.2.2 a i.toNatClampNeg)) (ty := .object C) hx hb (hR.arr ha0 ha ht) ((hK.2 t _ hty).1 _ _) rfl (fun q => by cases q) (by rw [arrV_size]; exact hin) (by rw [arrV_read _ _ (Nat.not_le.mp fun q => hin (Or.inr q))]) rfl rfl hd kk

theorem gw_iast (hx : p.tables.exec = Jvm.exec) (hb : c.code = cc) (hK : gKn D cl tys s) (hA : gAd ad B n0) (hR : gRp D cl ad B n0 s h H) {a t : Nat} {j : Int32} {x : Int32} (ha0 : n0 ≤ a) (ha : a < h.1) (ht : h.2.2.1 a = some (.inl t)) (hty : tys[t]? = some (.int)) (hin : vp_in j (h.2.2.2.1 a)) (hd : decode cc pc = .ok (.iastore, 1))
    (kk : ∀ (H1 : Heap) (i : Nat), gRp D cl ad B n0 s (gput h a j.toNatClampNeg (.int x)) H1 → H1.size = H.size → (∀ q, q ≠ ad a → H1[q]? = H[q]?) → W p l e R s m args below meth c H1 (locs ++ [⟨ad a, i⟩]) cells slots Q (F0 m (pc + 1) ls rest)) : W p l e R s m args below meth c H locs cells slots Q (F0 m pc ls (.int x :: .int j :: .ref (ad a) :: rest)) :=
  W.iast hx hb (hR.arr ha0 ha ht) ((hK.2 t _ hty).1 _ _) (fun q => by cases q) (by rw [arrV_size]; exact hin) rfl rfl hd (fun H1 e1 e2 e3 => kk H1 _ (hR.setA hA ha0 ht (v := .int x) e1 e2 e3) e2 e3)

theorem gw_bast (hx : p.tables.exec = Jvm.exec) (hb : c.code = cc) (hK : gKn D cl tys s) (hA : gAd ad B n0) (hR : gRp D cl ad B n0 s h H) {a t : Nat} {j : Int32} {x : Int32} (ha0 : n0 ≤ a) (ha : a < h.1) (ht : h.2.2.1 a = some (.inl t)) (hty : tys[t]? = some (.byte)) (hin : vp_in j (h.2.2.2.1 a)) (hd : decode cc pc = .ok (.bastore, 1))
    (kk : ∀ (H1 : Heap) (i : Nat), gRp D cl ad B n0 s (gput h a j.toNatClampNeg (.int x.toInt8.toInt32)) H1 → H1.size = H.size → (∀ q, q ≠ ad a → H1[q]? = H[q]?) → W p l e R s m args below meth c H1 (locs ++ [⟨ad a, i⟩]) cells slots Q (F0 m (pc + 1) ls rest)) : W p l e R s m args below meth c H locs cells slots Q (F0 m pc ls (.int x :: .int j :: .ref (ad a) :: rest)) :=
  W.bast hx hb (hR.arr ha0 ha ht) ((hK.2 t _ hty).1 _ _) (fun q => by cases q) (by rw [arrV_size]; exact hin) rfl rfl hd (fun H1 e1 e2 e3 => kk H1 _ (hR.setA hA ha0 ht (v := .int x.toInt8.toInt32) e1 e2 e3) e2 e3)

theorem gw_zast (hx : p.tables.exec = Jvm.exec) (hb : c.code = cc) (hK : gKn D cl tys s) (hA : gAd ad B n0) (hR : gRp D cl ad B n0 s h H) {a t : Nat} {j : Int32} {x : Int32} (ha0 : n0 ≤ a) (ha : a < h.1) (ht : h.2.2.1 a = some (.inl t)) (hty : tys[t]? = some (.boolean)) (hin : vp_in j (h.2.2.2.1 a)) (hd : decode cc pc = .ok (.bastore, 1))
    (kk : ∀ (H1 : Heap) (i : Nat), gRp D cl ad B n0 s (gput h a j.toNatClampNeg (.int (x &&& 1))) H1 → H1.size = H.size → (∀ q, q ≠ ad a → H1[q]? = H[q]?) → W p l e R s m args below meth c H1 (locs ++ [⟨ad a, i⟩]) cells slots Q (F0 m (pc + 1) ls rest)) : W p l e R s m args below meth c H locs cells slots Q (F0 m pc ls (.int x :: .int j :: .ref (ad a) :: rest)) :=
  W.zast hx hb (hR.arr ha0 ha ht) ((hK.2 t _ hty).1 _ _) (fun q => by cases q) (by rw [arrV_size]; exact hin) rfl rfl hd (fun H1 e1 e2 e3 => kk H1 _ (hR.setA hA ha0 ht (v := .int (x &&& 1)) e1 e2 e3) e2 e3)

theorem gw_last (hx : p.tables.exec = Jvm.exec) (hb : c.code = cc) (hK : gKn D cl tys s) (hA : gAd ad B n0) (hR : gRp D cl ad B n0 s h H) {a t : Nat} {j : Int32} {x : Int64} (ha0 : n0 ≤ a) (ha : a < h.1) (ht : h.2.2.1 a = some (.inl t)) (hty : tys[t]? = some (.long)) (hin : vp_in j (h.2.2.2.1 a)) (hd : decode cc pc = .ok (.lastore, 1))
    (kk : ∀ (H1 : Heap) (i : Nat), gRp D cl ad B n0 s (gput h a j.toNatClampNeg (.long x)) H1 → H1.size = H.size → (∀ q, q ≠ ad a → H1[q]? = H[q]?) → W p l e R s m args below meth c H1 (locs ++ [⟨ad a, i⟩]) cells slots Q (F0 m (pc + 1) ls rest)) : W p l e R s m args below meth c H locs cells slots Q (F0 m pc ls (.long x :: .int j :: .ref (ad a) :: rest)) :=
  W.last hx hb (hR.arr ha0 ha ht) ((hK.2 t _ hty).1 _ _) (fun q => by cases q) (by rw [arrV_size]; exact hin) rfl rfl hd (fun H1 e1 e2 e3 => kk H1 _ (hR.setA hA ha0 ht (v := .long x) e1 e2 e3) e2 e3)

theorem gw_aast (hx : p.tables.exec = Jvm.exec) (hb : c.code = cc) (hK : gKn D cl tys s) (hA : gAd ad B n0) (hR : gRp D cl ad B n0 s h H) {a t v ci : Nat} {q : vw_C} {j : Int32} (ha0 : n0 ≤ a) (ha : a < h.1) (hv0 : n0 ≤ v) (hv : v < h.1) (ht : h.2.2.1 a = some (.inl t)) (hty : tys[t]? = some (.object q.1)) (htv : h.2.2.1 v = some (.inr ci)) (hq : cl[ci]? = some q) (hin : vp_in j (h.2.2.2.1 a)) (hd : decode cc pc = .ok (.aastore, 1))
    (kk : ∀ (H1 : Heap) (i : Nat), gRp D cl ad B n0 s (gput h a j.toNatClampNeg (.ref v)) H1 → H1.size = H.size → (∀ q, q ≠ ad a → H1[q]? = H[q]?) → W p l e R s m args below meth c H1 (locs ++ [⟨ad a, i⟩]) cells slots Q (F0 m (pc + 1) ls rest)) : W p l e R s m args below meth c H locs cells slots Q (F0 m pc ls (.ref (ad v) :: .int j :: .ref (ad a) :: rest)) := by
  have hlt : j.toNatClampNeg < h.2.2.2.1 a := Nat.not_le.mp fun q => hin (Or.inr q)
  have h0 : ¬ j < 0 := fun q => hin (Or.inl q)
  have hat := hR.2.2.1 v hv0 hv
  unfold gAt at hat
  rw [htv] at hat
  obtain ⟨r', hr', cellV, g1, g2, g3, -⟩ := hat
  have hcls := (hK.1 ci q hq).2
  obtain ⟨kA, comp, k1, k2, k3, -⟩ := (hK.2 t _ hty).2
  have hcomp : comp = D.1.1 ci := Option.some.inj (k3.symm.trans hcls.1)
  subst hcomp
  obtain ⟨kC, hkC, -⟩ := hcls.2
  exact W.aast hx hb (hR.arr ha0 ha ht) (fun q h => by cases h) (fun h => by cases h) k1 k2 rfl hkC ⟨h0, by rw [arrV_size]; exact hlt⟩ g1 (fun q h => by rw [g3] at h; cases h) (by rw [g2]; exact hkC) (by rw [g2]; exact va_assign hcls) rfl rfl hd (fun H1 e1 e2 e3 => kk H1 _ (hR.setA hA ha0 ht (v := .ref v) e1 e2 e3) e2 e3)
/-- a new cell at the end -/
theorem gRp.push (hA : gAd ad B n0) (hR : gRp D cl ad B n0 s h H) {t : Option (Nat ⊕ Nat)} {len sl : Nat} {f : Nat → Value} {H1 : Heap} (hs : H1.size = H.size + 1) (ho : ∀ q, q < H.size → H1[q]? = H[q]?) (hc : gAt D cl ad (gnew h t len sl f) h.1 H1) : gRp D cl ad B n0 s (gnew h t len sl f) H1 := by
  obtain ⟨z, hn, g, gf⟩ := hR
  refine ⟨?_, ?_, fun b hb0 hb => ?_, gf.kept (fun b hb => ⟨if_neg (by omega), if_neg (by omega), fun j => by show (if b = h.1 then f else h.2.2.2.2 b) j = _; rw [if_neg (by omega)]⟩) (fun b hb => ho _ (by have := hA.1 b hb; omega))⟩
  · show H1.size = B + (h.1 + 1 - n0)
    rw [hs, z]; omega
  · show n0 ≤ h.1 + 1
    omega
  · have hb : b < h.1 + 1 := hb
    by_cases hbn : b = h.1
    · subst hbn; exact hc
    · have hlt : ad b < H.size := by
        by_cases h0 : n0 ≤ b
        · rw [hA.hi h0, z]; omega
        · have := hA.1 b (by omega)
          omega
      have g1 := (g b hb0 (by omega)).kept (ho _ hlt)
      unfold gAt at g1 ⊢
      show match (if b = h.1 then t else h.2.2.1 b) with
        | none => True
        | some (.inl t) => H1[ad b]? = some (arrV (D.2 t) (if b = h.1 then len else h.2.2.2.1 b) (fun j => gtv ad ((if b = h.1 then f else h.2.2.2.2 b) j)))
        | some (.inr ci) => ∃ r : vw_C, cl[ci]? = some r ∧ t_OB (ad b) (D.1.1 ci) r.2.2 (D.1.2 ci) H1 (fun k => gtv ad ((if b = h.1 then f else h.2.2.2.2 b) k))
      rw [if_neg hbn, if_neg hbn, if_neg hbn]
      exact g1
theorem gRp.top (hA : gAd ad B n0) (hR : gRp D cl ad B n0 s h H) : ad h.1 = H.size := by rw [hA.hi hR.2.1, hR.1]
theorem gRp.pushA (hA : gAd ad B n0) (hR : gRp D cl ad B n0 s h H) {t len : Nat} {x : Value} (hx : gtv ad x = x) : gRp D cl ad B n0 s (gnew h (some (.inl t)) len len (fun _ => x)) (H.push { cls := D.2 t, slots := Array.replicate len x, vm := .none }) := by
  refine hR.push hA (by rw [Array.size_push]) (fun q hq => by rw [Array.getElem?_push, if_neg (Nat.ne_of_lt hq)]) ?_
  unfold gAt
  rw [show (gnew h (some (.inl t)) len len (fun _ => x)).2.2.1 h.1 = some (.inl t) from if_pos rfl]
  show _ = some (arrV (D.2 t) (if h.1 = h.1 then len else _) (fun j => gtv ad ((if h.1 = h.1 then (fun _ => x) else h.2.2.2.2 h.1) j)))
  rw [hR.top hA, Array.getElem?_push_size, arrV_new, if_pos rfl, if_pos rfl]
  congr 2
  funext j
  exact hx.symm
theorem gdef (ad : Nat → Nat) (ty : FieldType) : gtv ad (defaultValue ty) = defaultValue ty := by cases ty <;> rfl
theorem gw_newa (hx : p.tables.exec = Jvm.exec) (hb : c.code = cc) (hK : gKn D cl tys s) (hA : gAd ad B n0) (hR : gRp D cl ad B n0 s h H) {aty : ArrayType} {t : Nat} {n : Int32} (hty : tys[t]? = some (newarray.typeOf aty)) (hpr : ∀ C, newarray.typeOf aty ≠ .object C) (harr : (Cond.arrayClass (newarray.typeOf aty)).before args s = true)
    (hn : ¬ n < 0) (hbig : n.toNatClampNeg * componentBytes (newarray.typeOf aty) ≤ 536870912) (hcells : cells + 1 ≤ R.cells) (hslots : slots + n.toNatClampNeg ≤ R.slots) (hd : decode cc pc = .ok (.newarray aty, 2))
    (kk : ∀ H1 : Heap, gRp D cl ad B n0 s (gnew h (some (.inl t)) n.toNatClampNeg n.toNatClampNeg (fun _ => defaultValue (newarray.typeOf aty))) H1 → (∀ q, q < H.size → H1[q]? = H[q]?) → H1.size = H.size + 1 → W p l e R s m args below meth c H1 locs (cells + 1) (slots + n.toNatClampNeg) Q (F0 m (pc + 2) ls (.ref (ad h.1) :: rest))) :
    W p l e R s m args below meth c H locs cells slots Q (F0 m pc ls (.int n :: rest)) := by
  refine W.newa hx hb harr rfl hd rfl hn hbig hcells hslots fun cA kA comp h1 h2 h3 => ?_
  have hRA := (hK.2 t _ hty).2
  have hcA : cA = D.2 t := by
    unfold va_RA at hRA
    split at hRA
    · rename_i C hC
      exact absurd hC (hpr C)
    · exact Option.some.inj (h1.symm.trans hRA)
  subst hcA
  have k9 := kk _ (hR.pushA hA (gdef ad _)) (fun q hq => by rw [Array.getElem?_push, if_neg (Nat.ne_of_lt hq)]) (by rw [Array.size_push])
  rw [hR.top hA] at k9
  exact k9
theorem gw_newq (hx : p.tables.exec = Jvm.exec) (hb : c.code = cc) (hown : s.vm.findClass own = some m.cls) (hK : gKn D cl tys s) (hA : gAd ad B n0) (hR : gRp D cl ad B n0 s h H) {index t : Nat} {C : String} {n : Int32} (hty : tys[t]? = some (.object C)) (hclink : (Cond.classLink own index C).before args s = true) (hover : (Cond.arrayOver (.object C)).before args s = true)
    (hn : ¬ n < 0) (hbig : n.toNatClampNeg * 4 ≤ 536870912) (hcells : cells + 1 ≤ R.cells) (hslots : slots + n.toNatClampNeg ≤ R.slots) (hd : decode cc pc = .ok (.anewarray index, 3))
    (kk : ∀ H1 : Heap, gRp D cl ad B n0 s (gnew h (some (.inl t)) n.toNatClampNeg n.toNatClampNeg (fun _ => .null)) H1 → (∀ q, q < H.size → H1[q]? = H[q]?) → H1.size = H.size + 1 → W p l e R s m args below meth c H1 locs (cells + 1) (slots + n.toNatClampNeg) Q (F0 m (pc + 3) ls (.ref (ad h.1) :: rest))) :
    W p l e R s m args below meth c H locs cells slots Q (F0 m pc ls (.int n :: rest)) := by
  refine W.anew hx hb hown hclink hover rfl hd rfl hn hbig hcells hslots fun cA kA comp h1 h2 h3 h4 => ?_
  obtain ⟨kA', comp', k1, k2, k3, k4⟩ := (hK.2 t _ hty).2
  have hcA : cA = D.2 t := Option.some.inj (h1.symm.trans k4)
  subst hcA
  have k9 := kk _ (hR.pushA hA rfl) (fun q hq => by rw [Array.getElem?_push, if_neg (Nat.ne_of_lt hq)]) (by rw [Array.size_push])
  rw [hR.top hA] at k9
  exact k9
theorem gw_new (hx : p.tables.exec = Jvm.exec) (hb : c.code = cc) (hts : ∀ w ∈ Ts, w.before args s = true) (hown : s.vm.findClass own = some m.cls) (hK : gKn D cl tys s) (hC : gCl cl fty Ts) (hA : gAd ad B n0) (hR : gRp D cl ad B n0 s h H) {index ci : Nat} {q : vw_C} (hq : cl[ci]? = some q)
    (hcl : (Cond.classLink own index q.1).before args s = true) (hinst : (Cond.instantiable q.1 q.2.2).before args s = true) (hini : (Cond.initialized q.1).before args s = true)
    (hcells : cells + 1 ≤ R.cells) (hslots : slots + q.2.2 ≤ R.slots) (hd : decode cc pc = .ok (.new index, 3))
    (kk : ∀ H1 : Heap, gRp D cl ad B n0 s (gnew h (some (.inr ci)) 0 q.2.2 (fun k => defaultValue (fty ci k))) H1 → (∀ q, q < H.size → H1[q]? = H[q]?) → H1.size = H.size + 1 → W p l e R s m args below meth c H1 locs (cells + 1) (slots + q.2.2) Q (F0 m (pc + 3) ls (.ref (ad h.1) :: rest))) :
    W p l e R s m args below meth c H locs cells slots Q (F0 m pc ls rest) := by
  obtain ⟨hin, hty, hnm⟩ := hC ci _ hq
  have hKn := hK.1 ci _ hq
  refine W.newcK hx hb hown hcl hinst hini rfl hd hcells hslots hKn.2.1 rfl fun H1 kC hkC e1 z1 o1 => ?_
  have k9 := kk H1 (hR.push hA z1 o1 ?_) o1 z1
  · rw [hR.top hA] at k9
    exact k9
  · unfold gAt
    rw [show (gnew h (some (.inr ci)) 0 q.2.2 (fun k => defaultValue (fty ci k))).2.2.1 h.1 = some (.inr ci) from if_pos rfl]
    refine ⟨_, hq, ?_⟩
    rw [hR.top hA]
    refine (u_born (fty ci) hts hin hKn hkC e1 hty).to (fun k _ => ?_)
    show defaultValue (fty ci k) = gtv ad ((if h.1 = h.1 then (fun k => defaultValue (fty ci k)) else h.2.2.2.2 h.1) k)
    rw [if_pos rfl, gdef]
/-- cells that were there before: read -/
theorem gw_ialdF (hx : p.tables.exec = Jvm.exec) (hb : c.code = cc) (hR : gRp D cl ad B n0 s h H) {a : Nat} {i : Int32} (ha0 : a < n0) (hin : vp_in i (h.2.2.2.1 a)) (hd : decode cc pc = .ok (.iaload, 1))
    (kk : W p l e R s m args below meth c H locs cells slots Q (F0 m (pc + 1) ls (gtv ad (h.2.2.2.2 a i.toNatClampNeg) :: rest))) : W p l e R s m args below meth c H locs cells slots Q (F0 m pc ls (.int i :: .ref (ad a) :: rest)) := by
  obtain ⟨-, cell, g2, g3, g4, g5, g6, g7⟩ := hR.2.2.2 a ha0
  have hlt : i.toNatClampNeg < h.2.2.2.1 a := Nat.not_le.mp fun q => hin (Or.inr q)
  exact W.iald (v := gtv ad (h.2.2.2.2 a i.toNatClampNeg)) hx hb g2 g3 g4 (fun q => q.elim (fun z => hin (Or.inl z)) (fun z => by omega)) (g7 _ hlt) rfl rfl hd kk
theorem gw_lenF (hx : p.tables.exec = Jvm.exec) (hb : c.code = cc) (hR : gRp D cl ad B n0 s h H) {a : Nat} (ha0 : a < n0) (hd : decode cc pc = .ok (.arraylength, 1))
    (kk : W p l e R s m args below meth c H locs cells slots Q (F0 m (pc + 1) ls (.int (nI (h.2.2.2.1 a)) :: rest))) : W p l e R s m args below meth c H locs cells slots Q (F0 m pc ls (.ref (ad a) :: rest)) := by
  obtain ⟨-, cell, g2, g3, g4, g5, g6, g7⟩ := hR.2.2.2 a ha0
  exact W.alen (n := nI (h.2.2.2.1 a)) hx hb g2 g3 g6 rfl rfl hd kk
end GA