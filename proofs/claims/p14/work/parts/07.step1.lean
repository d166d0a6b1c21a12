/-! ===== the pure machine, V: one step of the instructions that see the heap ===== -/
/-- what a constant pool means: fields, ints, longs, static arrays, classes (to be made; components of arrays) -/
abbrev gK : Type := (Nat → Option (Nat × Nat)) × (Nat → Option Int32) × (Nat → Option Int64) × (Nat → Option Nat) × (Nat → Option (Nat ⊕ Nat))
/-- of the whole: array types, fields' types, which are final, how many fields, how many cells were there before -/
abbrev gG : Type := List FieldType × (Nat → Nat → FieldType) × (Nat → Nat → Bool) × (Nat → Nat) × Nat
abbrev gR : Type := Nat × List Value × gH
def gin (i : Int32) (n : Nat) : Bool := decide (0 ≤ i) && decide (i.toNatClampNeg < n)
theorem gin_in {i : Int32} {n : Nat} (h : gin i n = true) : vp_in i n := by
  unfold gin at h
  simp only [Bool.and_eq_true, decide_eq_true_eq] at h
  rintro (q | q)
  · exact absurd h.1 (Int32.not_le.mpr q)
  · omega
def ggetf (K : gK) (G : gG) (idx n pc : Nat) (S : List Value) (h : gH) : Option gR := match K.1 idx with
  | some (ci, k) => match S with
    | .ref a :: S' => if n = 3 ∧ G.2.2.2.2 ≤ a ∧ a < h.1 ∧ h.2.2.1 a = some (.inr ci) then some (pc + 3, h.2.2.2.2 a k :: S', h) else none
    | _ => none
  | none => none
def gputf (K : gK) (G : gG) (ini : Option Nat) (idx n pc : Nat) (S : List Value) (h : gH) : Option gR := match K.1 idx with
  | some (ci, k) => match S with
    | v :: .ref a :: S' => if n = 3 ∧ G.2.2.2.2 ≤ a ∧ a < h.1 ∧ h.2.2.1 a = some (.inr ci) ∧ gfit (G.2.1 ci k) v = true ∧ (G.2.2.1 ci k = false ∨ ini = some ci) then some (pc + 3, S', gput h a k v) else none
    | _ => none
  | none => none
def gxald (G : gG) (ok : FieldType → Bool) (n pc : Nat) (S : List Value) (h : gH) : Option gR := match S with
  | .int i :: .ref a :: S' => match h.2.2.1 a with
    | some (.inl t) => match G.1[t]? with
      | some ty => if n = 1 ∧ a < h.1 ∧ ok ty = true ∧ gin i (h.2.2.2.1 a) = true then some (pc + 1, h.2.2.2.2 a i.toNatClampNeg :: S', h) else none
      | none => none
    | _ => none
  | _ => none
def gxlen (G : gG) (n pc : Nat) (S : List Value) (h : gH) : Option gR := match S with
  | .ref a :: S' => match h.2.2.1 a with
    | some (.inl t) => match G.1[t]? with
      | some _ => if n = 1 ∧ a < h.1 then some (pc + 1, .int (nI (h.2.2.2.1 a)) :: S', h) else none
      | none => none
    | _ => none
  | _ => none
def gxast (G : gG) (f : FieldType → Int32 → Option Value) (n pc : Nat) (S : List Value) (h : gH) : Option gR := match S with
  | .int x :: .int j :: .ref a :: S' => match h.2.2.1 a with
    | some (.inl t) => match G.1[t]? with
      | some ty => match f ty x with
        | some v => if n = 1 ∧ G.2.2.2.2 ≤ a ∧ a < h.1 ∧ gin j (h.2.2.2.1 a) = true then some (pc + 1, S', gput h a j.toNatClampNeg v) else none
        | none => none
      | none => none
    | _ => none
  | _ => none
def gilast (G : gG) (n pc : Nat) (S : List Value) (h : gH) : Option gR := match S with
  | .long x :: .int j :: .ref a :: S' => match h.2.2.1 a with
    | some (.inl t) => if G.1[t]? = some .long ∧ n = 1 ∧ G.2.2.2.2 ≤ a ∧ a < h.1 ∧ gin j (h.2.2.2.1 a) = true then some (pc + 1, S', gput h a j.toNatClampNeg (.long x)) else none
    | _ => none
  | _ => none
/-- cn t: the class of a reference array's components -/
def gaast (G : gG) (cn : Nat → Option Nat) (n pc : Nat) (S : List Value) (h : gH) : Option gR := match S with
  | .ref v :: .int j :: .ref a :: S' => match h.2.2.1 a with
    | some (.inl t) => match cn t with
      | some ci => if h.2.2.1 v = some (.inr ci) ∧ n = 1 ∧ G.2.2.2.2 ≤ a ∧ a < h.1 ∧ G.2.2.2.2 ≤ v ∧ v < h.1 ∧ gin j (h.2.2.2.1 a) = true then some (pc + 1, S', gput h a j.toNatClampNeg (.ref v)) else none
      | none => none
    | _ => none
  | _ => none
def gpt (aty : ArrayType) : Option Nat := match aty with
  | .int => some 0
  | .byte => some 1
  | .long => some 2
  | .boolean => some 3
  | _ => none
def gnewa (aty : ArrayType) (n pc : Nat) (S : List Value) (h : gH) : Option gR := match S with
  | .int k :: S' => match gpt aty with
    | some t => if n = 2 ∧ 0 ≤ k ∧ k.toNatClampNeg ≤ 1000000 then some (pc + 2, .ref h.1 :: S', gnew h (some (.inl t)) k.toNatClampNeg k.toNatClampNeg (fun _ => defaultValue (newarray.typeOf aty))) else none
    | none => none
  | _ => none
def gnewq (K : gK) (idx n pc : Nat) (S : List Value) (h : gH) : Option gR := match S with
  | .int k :: S' => match K.2.2.2.2 (idx + 100000) with
    | some (.inr t) => if n = 3 ∧ 0 ≤ k ∧ k.toNatClampNeg ≤ 1000000 then some (pc + 3, .ref h.1 :: S', gnew h (some (.inl t)) k.toNatClampNeg k.toNatClampNeg (fun _ => .null)) else none
    | _ => none
  | _ => none
def gnewo (K : gK) (G : gG) (idx n pc : Nat) (S : List Value) (h : gH) : Option gR := match K.2.2.2.2 idx with
  | some (.inl ci) => if n = 3 then some (pc + 3, .ref h.1 :: S, gnew h (some (.inr ci)) 0 (G.2.2.2.1 ci) (fun k => defaultValue (G.2.1 ci k))) else none
  | _ => none
def gst1 (G : gG) (cn : Nat → Option Nat) (K : gK) (ini : Option Nat) (I : Instr) (n pc : Nat) (S : List Value) (h : gH) : Option gR := match I with
  | .getfield idx => ggetf K G idx n pc S h
  | .putfield idx => gputf K G ini idx n pc S h
  | .iaload => gxald G (fun ty => decide (ty = .int)) n pc S h
  | .baload => gxald G (fun ty => decide (ty = .byte) || decide (ty = .boolean)) n pc S h
  | .laload => gxald G (fun ty => decide (ty = .long)) n pc S h
  | .aaload => gxald G (fun ty => match ty with | .object _ => true | _ => false) n pc S h
  | .arraylength => gxlen G n pc S h
  | .iastore => gxast G (fun ty x => match ty with | .int => some (.int x) | _ => none) n pc S h
  | .bastore => gxast G (fun ty x => match ty with | .byte => some (.int x.toInt8.toInt32) | .boolean => some (.int (x &&& 1)) | _ => none) n pc S h
  | .lastore => gilast G n pc S h
  | .aastore => gaast G cn n pc S h
  | .newarray aty => gnewa aty n pc S h
  | .anewarray idx => gnewq K idx n pc S h
  | .new idx => gnewo K G idx n pc S h
  | .ldc idx => match K.2.1 idx with
    | some v => if n = 2 then some (pc + 2, .int v :: S, h) else none
    | none => none
  | .ldc_w idx => match K.2.1 idx with
    | some v => if n = 3 then some (pc + 3, .int v :: S, h) else none
    | none => none
  | .ldc2_w idx => match K.2.2.1 idx with
    | some v => if n = 3 then some (pc + 3, .long v :: S, h) else none
    | none => none
  | .getstatic idx => match K.2.2.2.1 idx with
    | some a => if n = 3 then some (pc + 3, .ref a :: S, h) else none
    | none => none
  | _ => none
/-- what is fixed while a method runs: the machine, its words, its class, the tables, its constant pool -/
def gCx (D : gD) (cl : List vw_C) (G : gG) (cn : Nat → Option Nat) (ad : Nat → Nat) (B : Nat) (Ts : List Cond) (own : String) (K : gK) (ini : Option Nat) (p : Program) (s : State) (m : MethodId) (args : Array Value) (meth : Method) (c : Code) (cc : ByteArray) : Prop :=
  (p.tables.exec = Jvm.exec ∧ c.code = cc ∧ (∀ w ∈ Ts, w.before args s = true) ∧ s.vm.findClass own = some m.cls) ∧
  (gKn D cl G.1 s ∧ gCl cl G.2.1 Ts ∧ gAd ad B G.2.2.2.2) ∧
  (gFl cl Ts own K.1 ∧ (∀ idx v, K.2.1 idx = some v → Cond.constant own idx v ∈ Ts) ∧ (∀ idx v, K.2.2.1 idx = some v → Cond.constantLong own idx v ∈ Ts) ∧
    (∀ idx a, K.2.2.2.1 idx = some a → ∃ C nm d, va_Z C nm d (.ref (ad a)) (fun q => B ≤ q) s s.heap ∧ (Cond.fieldLink own idx C nm d ∈ Ts ∨ ∃ host, va_Nw (.fieldLinkNest own idx C nm d host) s)) ∧
    (∀ idx ci, K.2.2.2.2 idx = some (.inl ci) → ∃ q : vw_C, cl[ci]? = some q ∧ Cond.classLink own idx q.1 ∈ Ts ∧ Cond.instantiable q.1 q.2.2 ∈ Ts ∧ Cond.initialized q.1 ∈ Ts) ∧
    (∀ idx t, K.2.2.2.2 (idx + 100000) = some (.inr t) → ∃ C, G.1[t]? = some (.object C) ∧ Cond.classLink own idx C ∈ Ts ∧ va_AO C s)) ∧
  (G.1[0]? = some .int ∧ G.1[1]? = some .byte ∧ G.1[2]? = some .long ∧ G.1[3]? = some .boolean ∧ Cond.arrayClass .int ∈ Ts ∧ Cond.arrayClass .byte ∈ Ts ∧ Cond.arrayClass .long ∈ Ts ∧ Cond.arrayClass .boolean ∈ Ts) ∧
  ((∀ ci (q : vw_C), cl[ci]? = some q → G.2.2.2.1 ci = q.2.2 ∧ ∀ k, G.2.2.1 ci k = (q.2.1 k).2.2.2) ∧ (∀ t ci, cn t = some ci → ∃ q : vw_C, cl[ci]? = some q ∧ G.1[t]? = some (.object q.1)) ∧
    (∀ ci, ini = some ci → meth.name = "<init>" ∧ ∃ q : vw_C, cl[ci]? = some q ∧ ∀ k, k < q.2.2 → (q.2.1 k).1 = own))
theorem gr_eq {a a' : Nat} {b b' : List Value} {d d' : gH} (h : some (a, b, d) = some (a', b', d')) : a = a' ∧ b = b' ∧ d = d' := by
  cases h; exact ⟨rfl, rfl, rfl⟩

section G1
variable {p : Program} {l : Launch} {e : Env} {R : Room} {s : State} {m : MethodId} {args : Array Value} {below : List Frame} {meth : Method} {c : Code} {H : Heap} {locs : List Loc} {Q : State → Prop}
variable {cc : ByteArray} {pc pc' n : Nat} {ls : Array Slot} {S S' : List Value} {h h' : gH} {c0 u0 : Nat}
variable {D : gD} {cl : List vw_C} {G : gG} {cn : Nat → Option Nat} {ad : Nat → Nat} {B : Nat} {Ts : List Cond} {own : String} {K : gK} {ini : Option Nat}
theorem gS_new {A : Nat → Prop} {H0 H H1 : Heap} {locs : List Loc} (hS : va_S A H0 H locs) (ho : ∀ q, q < H.size → H1[q]? = H[q]?) (hz : H1.size = H.size + 1) : va_S A H0 H1 locs :=
  ⟨Nat.le_trans hS.1 (by omega), fun x h1 h2 => (ho x (Nat.lt_of_lt_of_le h1 hS.1)).trans (hS.2.1 x h1 h2), hS.2.2⟩

theorem gx_getf {idx : Nat} (g : ggetf K G idx n pc S h = some (pc', S', h')) (hd : decode cc pc = .ok (.getfield idx, n)) (C : gCx D cl G cn ad B Ts own K ini p s m args meth c cc) (hR : gRp D cl ad B G.2.2.2.2 s h H) (hS : va_S (fun q => B ≤ q) s.heap H locs) (hc0 : c0 ≤ h.1) (hu0 : u0 ≤ h.2.1) (hbc : h'.1 - c0 ≤ R.cells) (hbu : h'.2.1 - u0 ≤ R.slots)
    (kk : ∀ (H' : Heap) (locs' : List Loc), gRp D cl ad B G.2.2.2.2 s h' H' → va_S (fun q => B ≤ q) s.heap H' locs' → W p l e R s m args below meth c H' locs' (h'.1 - c0) (h'.2.1 - u0) Q (F0 m pc' ls (S'.map (gtv ad)))) : W p l e R s m args below meth c H locs (h.1 - c0) (h.2.1 - u0) Q (F0 m pc ls (S.map (gtv ad))) := by
  obtain ⟨⟨hx, hb, hts, hown⟩, ⟨hK, hC, hA⟩, ⟨hF, hcI, hcL, hst, hnc, hna⟩, ⟨t0, t1, t2, t3, a0, a1, a2, a3⟩, ⟨hfin, hcn, hini⟩⟩ := C
  unfold ggetf at g
  split at g
  · rename_i ci k hfl
    split at g
    · split at g
      · rename_i hn
        obtain ⟨rfl, h0, h1, h2⟩ := hn
        obtain ⟨rfl, rfl, rfl⟩ := gr_eq g
        exact gw_get hx hb hts hown hK hC hF hR hfl h0 h1 h2 hd (kk H locs hR hS)
      · cases g
    · cases g
  · cases g
theorem gx_putf {idx : Nat} (g : gputf K G ini idx n pc S h = some (pc', S', h')) (hd : decode cc pc = .ok (.putfield idx, n)) (C : gCx D cl G cn ad B Ts own K ini p s m args meth c cc) (hR : gRp D cl ad B G.2.2.2.2 s h H) (hS : va_S (fun q => B ≤ q) s.heap H locs) (hc0 : c0 ≤ h.1) (hu0 : u0 ≤ h.2.1) (hbc : h'.1 - c0 ≤ R.cells) (hbu : h'.2.1 - u0 ≤ R.slots)
    (kk : ∀ (H' : Heap) (locs' : List Loc), gRp D cl ad B G.2.2.2.2 s h' H' → va_S (fun q => B ≤ q) s.heap H' locs' → W p l e R s m args below meth c H' locs' (h'.1 - c0) (h'.2.1 - u0) Q (F0 m pc' ls (S'.map (gtv ad)))) : W p l e R s m args below meth c H locs (h.1 - c0) (h.2.1 - u0) Q (F0 m pc ls (S.map (gtv ad))) := by
  obtain ⟨⟨hx, hb, hts, hown⟩, ⟨hK, hC, hA⟩, ⟨hF, hcI, hcL, hst, hnc, hna⟩, ⟨t0, t1, t2, t3, a0, a1, a2, a3⟩, ⟨hfin, hcn, hini⟩⟩ := C
  unfold gputf at g
  split at g
  · rename_i ci k hfl
    split at g
    · split at g
      · rename_i a S1 _ hn
        obtain ⟨rfl, h0, h1, h2, h3, h4⟩ := hn
        obtain ⟨rfl, rfl, rfl⟩ := gr_eq g
        obtain ⟨q, hq, hkq, -⟩ := hF idx ci k hfl
        refine gw_put hx hb hts hown hK hC hF hA hR hfl h0 h1 h2 h3 ?_ hd (fun H1 i r z o => kk H1 _ r (hS.put z o (by show B ≤ _; rw [hA.hi h0]; omega)))
        rcases h4 with h4 | h4
        · exact Or.inl ⟨q, hq, by rw [← (hfin ci q hq).2 k]; exact h4⟩
        · obtain ⟨i1, q', hq', i2⟩ := hini ci h4
          cases hq.symm.trans hq'
          by_cases hf : (q.2.1 k).2.2.2 = true
          · exact Or.inr ⟨i1, q, hq, hf, i2 k hkq⟩
          · exact Or.inl ⟨q, hq, by simpa using hf⟩
      · cases g
    · cases g
  · cases g
theorem gx_iald  (g : gxald G (fun ty => decide (ty = .int)) n pc S h = some (pc', S', h')) (hd : decode cc pc = .ok (.iaload, n)) (C : gCx D cl G cn ad B Ts own K ini p s m args meth c cc) (hR : gRp D cl ad B G.2.2.2.2 s h H) (hS : va_S (fun q => B ≤ q) s.heap H locs) (hc0 : c0 ≤ h.1) (hu0 : u0 ≤ h.2.1) (hbc : h'.1 - c0 ≤ R.cells) (hbu : h'.2.1 - u0 ≤ R.slots)
    (kk : ∀ (H' : Heap) (locs' : List Loc), gRp D cl ad B G.2.2.2.2 s h' H' → va_S (fun q => B ≤ q) s.heap H' locs' → W p l e R s m args below meth c H' locs' (h'.1 - c0) (h'.2.1 - u0) Q (F0 m pc' ls (S'.map (gtv ad)))) : W p l e R s m args below meth c H locs (h.1 - c0) (h.2.1 - u0) Q (F0 m pc ls (S.map (gtv ad))) := by
  obtain ⟨⟨hx, hb, hts, hown⟩, ⟨hK, hC, hA⟩, ⟨hF, hcI, hcL, hst, hnc, hna⟩, ⟨t0, t1, t2, t3, a0, a1, a2, a3⟩, ⟨hfin, hcn, hini⟩⟩ := C
  unfold gxald at g
  split at g
  · rename_i i a S1
    split at g
    · rename_i t ht
      split at g
      · rename_i ty hty
        split at g
        · rename_i hn
          obtain ⟨rfl, h1, h2, h3⟩ := hn
          obtain ⟨rfl, rfl, rfl⟩ := gr_eq g
          have hin := gin_in h3
          have h2 : ty = .int := by simpa using h2
          subst h2
          by_cases h0 : G.2.2.2.2 ≤ a
          · exact gw_iald hx hb hK hR h0 h1 ht hty hin hd (kk H locs hR hS)
          · exact gw_ialdF hx hb hR (by omega) hin hd (kk H locs hR hS)
        · cases g
      · cases g
    · cases g
  · cases g
theorem gx_bald  (g : gxald G (fun ty => decide (ty = .byte) || decide (ty = .boolean)) n pc S h = some (pc', S', h')) (hd : decode cc pc = .ok (.baload, n)) (C : gCx D cl G cn ad B Ts own K ini p s m args meth c cc) (hR : gRp D cl ad B G.2.2.2.2 s h H) (hS : va_S (fun q => B ≤ q) s.heap H locs) (hc0 : c0 ≤ h.1) (hu0 : u0 ≤ h.2.1) (hbc : h'.1 - c0 ≤ R.cells) (hbu : h'.2.1 - u0 ≤ R.slots)
    (kk : ∀ (H' : Heap) (locs' : List Loc), gRp D cl ad B G.2.2.2.2 s h' H' → va_S (fun q => B ≤ q) s.heap H' locs' → W p l e R s m args below meth c H' locs' (h'.1 - c0) (h'.2.1 - u0) Q (F0 m pc' ls (S'.map (gtv ad)))) : W p l e R s m args below meth c H locs (h.1 - c0) (h.2.1 - u0) Q (F0 m pc ls (S.map (gtv ad))) := by
  obtain ⟨⟨hx, hb, hts, hown⟩, ⟨hK, hC, hA⟩, ⟨hF, hcI, hcL, hst, hnc, hna⟩, ⟨t0, t1, t2, t3, a0, a1, a2, a3⟩, ⟨hfin, hcn, hini⟩⟩ := C
  unfold gxald at g
  split at g
  · rename_i i a S1
    split at g
    · rename_i t ht
      split at g
      · rename_i ty hty
        split at g
        · rename_i hn
          obtain ⟨rfl, h1, h2, h3⟩ := hn
          obtain ⟨rfl, rfl, rfl⟩ := gr_eq g
          have hin := gin_in h3
          have h0 : G.2.2.2.2 ≤ a := by
            by_cases h0 : G.2.2.2.2 ≤ a
            · exact h0
            · obtain ⟨z, -⟩ := hR.2.2.2 a (by omega)
              rw [ht] at z
              cases z
              rw [t0] at hty
              cases hty
              simp at h2
          have h2 : ty = .byte ∨ ty = .boolean := by simpa using h2
          rcases h2 with rfl | rfl
          · exact gw_bald hx hb hK hR h0 h1 ht hty hin hd (kk H locs hR hS)
          · exact gw_zald hx hb hK hR h0 h1 ht hty hin hd (kk H locs hR hS)
        · cases g
      · cases g
    · cases g
  · cases g
theorem gx_lald  (g : gxald G (fun ty => decide (ty = .long)) n pc S h = some (pc', S', h')) (hd : decode cc pc = .ok (.laload, n)) (C : gCx D cl G cn ad B Ts own K ini p s m args meth c cc) (hR : gRp D cl ad B G.2.2.2.2 s h H) (hS : va_S (fun q => B ≤ q) s.heap H locs) (hc0 : c0 ≤ h.1) (hu0 : u0 ≤ h.2.1) (hbc : h'.1 - c0 ≤ R.cells) (hbu : h'.2.1 - u0 ≤ R.slots)
    (kk : ∀ (H' : Heap) (locs' : List Loc), gRp D cl ad B G.2.2.2.2 s h' H' → va_S (fun q => B ≤ q) s.heap H' locs' → W p l e R s m args below meth c H' locs' (h'.1 - c0) (h'.2.1 - u0) Q (F0 m pc' ls (S'.map (gtv ad)))) : W p l e R s m args below meth c H locs (h.1 - c0) (h.2.1 - u0) Q (F0 m pc ls (S.map (gtv ad))) := by
  obtain ⟨⟨hx, hb, hts, hown⟩, ⟨hK, hC, hA⟩, ⟨hF, hcI, hcL, hst, hnc, hna⟩, ⟨t0, t1, t2, t3, a0, a1, a2, a3⟩, ⟨hfin, hcn, hini⟩⟩ := C
  unfold gxald at g
  split at g
  · rename_i i a S1
    split at g
    · rename_i t ht
      split at g
      · rename_i ty hty
        split at g
        · rename_i hn
          obtain ⟨rfl, h1, h2, h3⟩ := hn
          obtain ⟨rfl, rfl, rfl⟩ := gr_eq g
          have hin := gin_in h3
          have h0 : G.2.2.2.2 ≤ a := by
            by_cases h0 : G.2.2.2.2 ≤ a
            · exact h0
            · obtain ⟨z, -⟩ := hR.2.2.2 a (by omega)
              rw [ht] at z
              cases z
              rw [t0] at hty
              cases hty
              simp at h2
          have h2 : ty = .long := by simpa using h2
          subst h2
          exact gw_lald hx hb hK hR h0 h1 ht hty hin hd (kk H locs hR hS)
        · cases g
      · cases g
    · cases g
  · cases g
theorem gx_aald  (g : gxald G (fun ty => match ty with | .object _ => true | _ => false) n pc S h = some (pc', S', h')) (hd : decode cc pc = .ok (.aaload, n)) (C : gCx D cl G cn ad B Ts own K ini p s m args meth c cc) (hR : gRp D cl ad B G.2.2.2.2 s h H) (hS : va_S (fun q => B ≤ q) s.heap H locs) (hc0 : c0 ≤ h.1) (hu0 : u0 ≤ h.2.1) (hbc : h'.1 - c0 ≤ R.cells) (hbu : h'.2.1 - u0 ≤ R.slots)
    (kk : ∀ (H' : Heap) (locs' : List Loc), gRp D cl ad B G.2.2.2.2 s h' H' → va_S (fun q => B ≤ q) s.heap H' locs' → W p l e R s m args below meth c H' locs' (h'.1 - c0) (h'.2.1 - u0) Q (F0 m pc' ls (S'.map (gtv ad)))) : W p l e R s m args below meth c H locs (h.1 - c0) (h.2.1 - u0) Q (F0 m pc ls (S.map (gtv ad))) := by
  obtain ⟨⟨hx, hb, hts, hown⟩, ⟨hK, hC, hA⟩, ⟨hF, hcI, hcL, hst, hnc, hna⟩, ⟨t0, t1, t2, t3, a0, a1, a2, a3⟩, ⟨hfin, hcn, hini⟩⟩ := C
  unfold gxald at g
  split at g
  · rename_i i a S1
    split at g
    · rename_i t ht
      split at g
      · rename_i ty hty
        split at g
        · rename_i hn
          obtain ⟨rfl, h1, h2, h3⟩ := hn
          obtain ⟨rfl, rfl, rfl⟩ := gr_eq g
          have hin := gin_in h3
          have h0 : G.2.2.2.2 ≤ a := by
            by_cases h0 : G.2.2.2.2 ≤ a
            · exact h0
            · obtain ⟨z, -⟩ := hR.2.2.2 a (by omega)
              rw [ht] at z
              cases z
              rw [t0] at hty
              cases hty
              simp at h2
          dsimp only at h2
          split at h2
          · exact gw_aald hx hb hK hR h0 h1 ht hty hin hd (kk H locs hR hS)
          · cases h2
        · cases g
      · cases g
    · cases g
  · cases g
theorem gx_len  (g : gxlen G n pc S h = some (pc', S', h')) (hd : decode cc pc = .ok (.arraylength, n)) (C : gCx D cl G cn ad B Ts own K ini p s m args meth c cc) (hR : gRp D cl ad B G.2.2.2.2 s h H) (hS : va_S (fun q => B ≤ q) s.heap H locs) (hc0 : c0 ≤ h.1) (hu0 : u0 ≤ h.2.1) (hbc : h'.1 - c0 ≤ R.cells) (hbu : h'.2.1 - u0 ≤ R.slots)
    (kk : ∀ (H' : Heap) (locs' : List Loc), gRp D cl ad B G.2.2.2.2 s h' H' → va_S (fun q => B ≤ q) s.heap H' locs' → W p l e R s m args below meth c H' locs' (h'.1 - c0) (h'.2.1 - u0) Q (F0 m pc' ls (S'.map (gtv ad)))) : W p l e R s m args below meth c H locs (h.1 - c0) (h.2.1 - u0) Q (F0 m pc ls (S.map (gtv ad))) := by
  obtain ⟨⟨hx, hb, hts, hown⟩, ⟨hK, hC, hA⟩, ⟨hF, hcI, hcL, hst, hnc, hna⟩, ⟨t0, t1, t2, t3, a0, a1, a2, a3⟩, ⟨hfin, hcn, hini⟩⟩ := C
  unfold gxlen at g
  split at g
  · rename_i a S1
    split at g
    · rename_i t ht
      split at g
      · rename_i ty hty
        split at g
        · rename_i hn
          obtain ⟨rfl, h1⟩ := hn
          obtain ⟨rfl, rfl, rfl⟩ := gr_eq g
          by_cases h0 : G.2.2.2.2 ≤ a
          · exact gw_len hx hb hK hR h0 h1 ht hty hd (kk H locs hR hS)
          · exact gw_lenF hx hb hR (by omega) hd (kk H locs hR hS)
        · cases g
      · cases g
    · cases g
  · cases g
theorem gx_iast  (g : gxast G (fun ty x => match ty with | .int => some (.int x) | _ => none) n pc S h = some (pc', S', h')) (hd : decode cc pc = .ok (.iastore, n)) (C : gCx D cl G cn ad B Ts own K ini p s m args meth c cc) (hR : gRp D cl ad B G.2.2.2.2 s h H) (hS : va_S (fun q => B ≤ q) s.heap H locs) (hc0 : c0 ≤ h.1) (hu0 : u0 ≤ h.2.1) (hbc : h'.1 - c0 ≤ R.cells) (hbu : h'.2.1 - u0 ≤ R.slots)
    (kk : ∀ (H' : Heap) (locs' : List Loc), gRp D cl ad B G.2.2.2.2 s h' H' → va_S (fun q => B ≤ q) s.heap H' locs' → W p l e R s m args below meth c H' locs' (h'.1 - c0) (h'.2.1 - u0) Q (F0 m pc' ls (S'.map (gtv ad)))) : W p l e R s m args below meth c H locs (h.1 - c0) (h.2.1 - u0) Q (F0 m pc ls (S.map (gtv ad))) := by
  obtain ⟨⟨hx, hb, hts, hown⟩, ⟨hK, hC, hA⟩, ⟨hF, hcI, hcL, hst, hnc, hna⟩, ⟨t0, t1, t2, t3, a0, a1, a2, a3⟩, ⟨hfin, hcn, hini⟩⟩ := C
  unfold gxast at g
  split at g
  · rename_i x j a S1
    split at g
    · rename_i t ht
      split at g
      · rename_i ty hty
        split at g
        · rename_i v hv
          split at g
          · rename_i hn
            obtain ⟨rfl, h0, h1, h3⟩ := hn
            obtain ⟨rfl, rfl, rfl⟩ := gr_eq g
            have hin := gin_in h3
            dsimp only at hv
            split at hv
            · cases hv
              exact gw_iast hx hb hK hA hR h0 h1 ht hty hin hd (fun H1 i r z o => kk H1 _ r (hS.put z o (by show B ≤ _; rw [hA.hi h0]; omega)))
            · cases hv
          · cases g
        · cases g
      · cases g
    · cases g
  · cases g
theorem gx_bast  (g : gxast G (fun ty x => match ty with | .byte => some (.int x.toInt8.toInt32) | .boolean => some (.int (x &&& 1)) | _ => none) n pc S h = some (pc', S', h')) (hd : decode cc pc = .ok (.bastore, n)) (C : gCx D cl G cn ad B Ts own K ini p s m args meth c cc) (hR : gRp D cl ad B G.2.2.2.2 s h H) (hS : va_S (fun q => B ≤ q) s.heap H locs) (hc0 : c0 ≤ h.1) (hu0 : u0 ≤ h.2.1) (hbc : h'.1 - c0 ≤ R.cells) (hbu : h'.2.1 - u0 ≤ R.slots)
    (kk : ∀ (H' : Heap) (locs' : List Loc), gRp D cl ad B G.2.2.2.2 s h' H' → va_S (fun q => B ≤ q) s.heap H' locs' → W p l e R s m args below meth c H' locs' (h'.1 - c0) (h'.2.1 - u0) Q (F0 m pc' ls (S'.map (gtv ad)))) : W p l e R s m args below meth c H locs (h.1 - c0) (h.2.1 - u0) Q (F0 m pc ls (S.map (gtv ad))) := by
  obtain ⟨⟨hx, hb, hts, hown⟩, ⟨hK, hC, hA⟩, ⟨hF, hcI, hcL, hst, hnc, hna⟩, ⟨t0, t1, t2, t3, a0, a1, a2, a3⟩, ⟨hfin, hcn, hini⟩⟩ := C
  unfold gxast at g
  split at g
  · rename_i x j a S1
    split at g
    · rename_i t ht
      split at g
      · rename_i ty hty
        split at g
        · rename_i v hv
          split at g
          · rename_i hn
            obtain ⟨rfl, h0, h1, h3⟩ := hn
            obtain ⟨rfl, rfl, rfl⟩ := gr_eq g
            have hin := gin_in h3
            dsimp only at hv
            split at hv
            · cases hv
              exact gw_bast hx hb hK hA hR h0 h1 ht hty hin hd (fun H1 i r z o => kk H1 _ r (hS.put z o (by show B ≤ _; rw [hA.hi h0]; omega)))
            · cases hv
              exact gw_zast hx hb hK hA hR h0 h1 ht hty hin hd (fun H1 i r z o => kk H1 _ r (hS.put z o (by show B ≤ _; rw [hA.hi h0]; omega)))
            · cases hv
          · cases g
        · cases g
      · cases g
    · cases g
  · cases g
theorem gx_last  (g : gilast G n pc S h = some (pc', S', h')) (hd : decode cc pc = .ok (.lastore, n)) (C : gCx D cl G cn ad B Ts own K ini p s m args meth c cc) (hR : gRp D cl ad B G.2.2.2.2 s h H) (hS : va_S (fun q => B ≤ q) s.heap H locs) (hc0 : c0 ≤ h.1) (hu0 : u0 ≤ h.2.1) (hbc : h'.1 - c0 ≤ R.cells) (hbu : h'.2.1 - u0 ≤ R.slots)
    (kk : ∀ (H' : Heap) (locs' : List Loc), gRp D cl ad B G.2.2.2.2 s h' H' → va_S (fun q => B ≤ q) s.heap H' locs' → W p l e R s m args below meth c H' locs' (h'.1 - c0) (h'.2.1 - u0) Q (F0 m pc' ls (S'.map (gtv ad)))) : W p l e R s m args below meth c H locs (h.1 - c0) (h.2.1 - u0) Q (F0 m pc ls (S.map (gtv ad))) := by
  obtain ⟨⟨hx, hb, hts, hown⟩, ⟨hK, hC, hA⟩, ⟨hF, hcI, hcL, hst, hnc, hna⟩, ⟨t0, t1, t2, t3, a0, a1, a2, a3⟩, ⟨hfin, hcn, hini⟩⟩ := C
  unfold gilast at g
  split at g
  · rename_i x j a S1
    split at g
    · rename_i t ht
      split at g
      · rename_i hn
        obtain ⟨hty, rfl, h0, h1, h3⟩ := hn
        obtain ⟨rfl, rfl, rfl⟩ := gr_eq g
        exact gw_last hx hb hK hA hR h0 h1 ht hty (gin_in h3) hd (fun H1 i r z o => kk H1 _ r (hS.put z o (by show B ≤ _; rw [hA.hi h0]; omega)))
      · cases g
    · cases g
  · cases g
theorem gx_aast  (g : gaast G cn n pc S h = some (pc', S', h')) (hd : decode cc pc = .ok (.aastore, n)) (C : gCx D cl G cn ad B Ts own K ini p s m args meth c cc) (hR : gRp D cl ad B G.2.2.2.2 s h H) (hS : va_S (fun q => B ≤ q) s.heap H locs) (hc0 : c0 ≤ h.1) (hu0 : u0 ≤ h.2.1) (hbc : h'.1 - c0 ≤ R.cells) (hbu : h'.2.1 - u0 ≤ R.slots)
    (kk : ∀ (H' : Heap) (locs' : List Loc), gRp D cl ad B G.2.2.2.2 s h' H' → va_S (fun q => B ≤ q) s.heap H' locs' → W p l e R s m args below meth c H' locs' (h'.1 - c0) (h'.2.1 - u0) Q (F0 m pc' ls (S'.map (gtv ad)))) : W p l e R s m args below meth c H locs (h.1 - c0) (h.2.1 - u0) Q (F0 m pc ls (S.map (gtv ad))) := by
  obtain ⟨⟨hx, hb, hts, hown⟩, ⟨hK, hC, hA⟩, ⟨hF, hcI, hcL, hst, hnc, hna⟩, ⟨t0, t1, t2, t3, a0, a1, a2, a3⟩, ⟨hfin, hcn, hini⟩⟩ := C
  unfold gaast at g
  split at g
  · rename_i v j a S1
    split at g
    · rename_i t ht
      split at g
      · rename_i ci hci
        split at g
        · rename_i hn
          obtain ⟨htv, rfl, h0, h1, hv0, hv1, h3⟩ := hn
          obtain ⟨rfl, rfl, rfl⟩ := gr_eq g
          obtain ⟨q, hq, hty⟩ := hcn t ci hci
          exact gw_aast hx hb hK hA hR h0 h1 hv0 hv1 ht hty htv hq (gin_in h3) hd (fun H1 i r z o => kk H1 _ r (hS.put z o (by show B ≤ _; rw [hA.hi h0]; omega)))
        · cases g
      · cases g
    · cases g
  · cases g
theorem gx_newa {aty : ArrayType} (g : gnewa aty n pc S h = some (pc', S', h')) (hd : decode cc pc = .ok (.newarray aty, n)) (C : gCx D cl G cn ad B Ts own K ini p s m args meth c cc) (hR : gRp D cl ad B G.2.2.2.2 s h H) (hS : va_S (fun q => B ≤ q) s.heap H locs) (hc0 : c0 ≤ h.1) (hu0 : u0 ≤ h.2.1) (hbc : h'.1 - c0 ≤ R.cells) (hbu : h'.2.1 - u0 ≤ R.slots)
    (kk : ∀ (H' : Heap) (locs' : List Loc), gRp D cl ad B G.2.2.2.2 s h' H' → va_S (fun q => B ≤ q) s.heap H' locs' → W p l e R s m args below meth c H' locs' (h'.1 - c0) (h'.2.1 - u0) Q (F0 m pc' ls (S'.map (gtv ad)))) : W p l e R s m args below meth c H locs (h.1 - c0) (h.2.1 - u0) Q (F0 m pc ls (S.map (gtv ad))) := by
  obtain ⟨⟨hx, hb, hts, hown⟩, ⟨hK, hC, hA⟩, ⟨hF, hcI, hcL, hst, hnc, hna⟩, ⟨t0, t1, t2, t3, a0, a1, a2, a3⟩, ⟨hfin, hcn, hini⟩⟩ := C
  unfold gnewa at g
  split at g
  · rename_i k S1
    split at g
    · rename_i t ht
      split at g
      · rename_i hn
        obtain ⟨rfl, h0, h1⟩ := hn
        obtain ⟨rfl, rfl, rfl⟩ := gr_eq g
        have hb1 : h.1 - c0 + 1 ≤ R.cells := by
          have : h.1 + 1 - c0 ≤ R.cells := hbc
          omega
        have hb2 : h.2.1 - u0 + k.toNatClampNeg ≤ R.slots := by
          have : h.2.1 + k.toNatClampNeg - u0 ≤ R.slots := hbu
          omega
        have e1 : h.1 - c0 + 1 = h.1 + 1 - c0 := by omega
        have e2 : h.2.1 - u0 + k.toNatClampNeg = h.2.1 + k.toNatClampNeg - u0 := by omega
        have hn0 : ¬ k < 0 := Int32.not_lt.mpr h0
        have fin := fun (H1 : Heap) r o z => (show W p l e R s m args below meth c H1 locs (h.1 - c0 + 1) (h.2.1 - u0 + k.toNatClampNeg) Q (F0 m (pc + 2) ls (.ref (ad h.1) :: S1.map (gtv ad))) by rw [e1, e2]; exact kk H1 locs r (gS_new hS o z))
        cases aty <;> cases ht
        · exact gw_newa (aty := .boolean) hx hb hK hA hR t3 (fun C q => by cases q) (hts _ a3) hn0 (by show _ * 1 ≤ _; omega) hb1 hb2 hd fin
        · exact gw_newa (aty := .byte) hx hb hK hA hR t1 (fun C q => by cases q) (hts _ a1) hn0 (by show _ * 1 ≤ _; omega) hb1 hb2 hd fin
        · exact gw_newa (aty := .int) hx hb hK hA hR t0 (fun C q => by cases q) (hts _ a0) hn0 (by show _ * 4 ≤ _; omega) hb1 hb2 hd fin
        · exact gw_newa (aty := .long) hx hb hK hA hR t2 (fun C q => by cases q) (hts _ a2) hn0 (by show _ * 8 ≤ _; omega) hb1 hb2 hd fin
      · cases g
    · cases g
  · cases g
theorem gx_newq {idx : Nat} (g : gnewq K idx n pc S h = some (pc', S', h')) (hd : decode cc pc = .ok (.anewarray idx, n)) (C : gCx D cl G cn ad B Ts own K ini p s m args meth c cc) (hR : gRp D cl ad B G.2.2.2.2 s h H) (hS : va_S (fun q => B ≤ q) s.heap H locs) (hc0 : c0 ≤ h.1) (hu0 : u0 ≤ h.2.1) (hbc : h'.1 - c0 ≤ R.cells) (hbu : h'.2.1 - u0 ≤ R.slots)
    (kk : ∀ (H' : Heap) (locs' : List Loc), gRp D cl ad B G.2.2.2.2 s h' H' → va_S (fun q => B ≤ q) s.heap H' locs' → W p l e R s m args below meth c H' locs' (h'.1 - c0) (h'.2.1 - u0) Q (F0 m pc' ls (S'.map (gtv ad)))) : W p l e R s m args below meth c H locs (h.1 - c0) (h.2.1 - u0) Q (F0 m pc ls (S.map (gtv ad))) := by
  obtain ⟨⟨hx, hb, hts, hown⟩, ⟨hK, hC, hA⟩, ⟨hF, hcI, hcL, hst, hnc, hna⟩, ⟨t0, t1, t2, t3, a0, a1, a2, a3⟩, ⟨hfin, hcn, hini⟩⟩ := C
  unfold gnewq at g
  split at g
  · rename_i k S1
    split at g
    · rename_i t ht
      split at g
      · rename_i hn
        obtain ⟨rfl, h0, h1⟩ := hn
        obtain ⟨rfl, rfl, rfl⟩ := gr_eq g
        have hb1 : h.1 - c0 + 1 ≤ R.cells := by
          have : h.1 + 1 - c0 ≤ R.cells := hbc
          omega
        have hb2 : h.2.1 - u0 + k.toNatClampNeg ≤ R.slots := by
          have : h.2.1 + k.toNatClampNeg - u0 ≤ R.slots := hbu
          omega
        have e1 : h.1 - c0 + 1 = h.1 + 1 - c0 := by omega
        have e2 : h.2.1 - u0 + k.toNatClampNeg = h.2.1 + k.toNatClampNeg - u0 := by omega
        have hn0 : ¬ k < 0 := Int32.not_lt.mpr h0
        have fin := fun (H1 : Heap) r o z => (show W p l e R s m args below meth c H1 locs (h.1 - c0 + 1) (h.2.1 - u0 + k.toNatClampNeg) Q (F0 m (pc + 3) ls (.ref (ad h.1) :: S1.map (gtv ad))) by rw [e1, e2]; exact kk H1 locs r (gS_new hS o z))
        obtain ⟨C, hty, hl, hao⟩ := hna idx t ht
        exact gw_newq hx hb hown hK hA hR hty (hts _ hl) (va_AO.use hao) hn0 (by omega) hb1 hb2 hd fin
      · cases g
    · cases g
  · cases g
theorem gx_newo {idx : Nat} (g : gnewo K G idx n pc S h = some (pc', S', h')) (hd : decode cc pc = .ok (.new idx, n)) (C : gCx D cl G cn ad B Ts own K ini p s m args meth c cc) (hR : gRp D cl ad B G.2.2.2.2 s h H) (hS : va_S (fun q => B ≤ q) s.heap H locs) (hc0 : c0 ≤ h.1) (hu0 : u0 ≤ h.2.1) (hbc : h'.1 - c0 ≤ R.cells) (hbu : h'.2.1 - u0 ≤ R.slots)
    (kk : ∀ (H' : Heap) (locs' : List Loc), gRp D cl ad B G.2.2.2.2 s h' H' → va_S (fun q => B ≤ q) s.heap H' locs' → W p l e R s m args below meth c H' locs' (h'.1 - c0) (h'.2.1 - u0) Q (F0 m pc' ls (S'.map (gtv ad)))) : W p l e R s m args below meth c H locs (h.1 - c0) (h.2.1 - u0) Q (F0 m pc ls (S.map (gtv ad))) := by
  obtain ⟨⟨hx, hb, hts, hown⟩, ⟨hK, hC, hA⟩, ⟨hF, hcI, hcL, hst, hnc, hna⟩, ⟨t0, t1, t2, t3, a0, a1, a2, a3⟩, ⟨hfin, hcn, hini⟩⟩ := C
  unfold gnewo at g
  split at g
  · rename_i ci hci
    split at g
    · rename_i hn
      subst hn
      obtain ⟨rfl, rfl, rfl⟩ := gr_eq g
      obtain ⟨q, hq, g1, g2, g3⟩ := hnc idx ci hci
      have hN := (hfin ci q hq).1
      have hb1 : h.1 - c0 + 1 ≤ R.cells := by
        have : h.1 + 1 - c0 ≤ R.cells := hbc
        omega
      have hb2 : h.2.1 - u0 + q.2.2 ≤ R.slots := by
        have : h.2.1 + G.2.2.2.1 ci - u0 ≤ R.slots := hbu
        omega
      have e1 : h.1 - c0 + 1 = h.1 + 1 - c0 := by omega
      have e2 : h.2.1 - u0 + q.2.2 = h.2.1 + G.2.2.2.1 ci - u0 := by omega
      refine gw_new hx hb hts hown hK hC hA hR hq (hts _ g1) (hts _ g2) (hts _ g3) hb1 hb2 hd (fun H1 r o z => ?_)
      rw [e1, e2]
      rw [← hN] at r
      exact kk H1 locs r (gS_new hS o z)
    · cases g
  · cases g
theorem gst1_W {I : Instr} (g : gst1 G cn K ini I n pc S h = some (pc', S', h')) (hd : decode cc pc = .ok (I, n)) (C : gCx D cl G cn ad B Ts own K ini p s m args meth c cc) (hR : gRp D cl ad B G.2.2.2.2 s h H) (hS : va_S (fun q => B ≤ q) s.heap H locs) (hc0 : c0 ≤ h.1) (hu0 : u0 ≤ h.2.1) (hbc : h'.1 - c0 ≤ R.cells) (hbu : h'.2.1 - u0 ≤ R.slots)
    (kk : ∀ (H' : Heap) (locs' : List Loc), gRp D cl ad B G.2.2.2.2 s h' H' → va_S (fun q => B ≤ q) s.heap H' locs' → W p l e R s m args below meth c H' locs' (h'.1 - c0) (h'.2.1 - u0) Q (F0 m pc' ls (S'.map (gtv ad)))) : W p l e R s m args below meth c H locs (h.1 - c0) (h.2.1 - u0) Q (F0 m pc ls (S.map (gtv ad))) := by
  cases I with
  | getfield idx => exact gx_getf g hd C hR hS hc0 hu0 hbc hbu kk
  | putfield idx => exact gx_putf g hd C hR hS hc0 hu0 hbc hbu kk
  | iaload => exact gx_iald g hd C hR hS hc0 hu0 hbc hbu kk
  | baload => exact gx_bald g hd C hR hS hc0 hu0 hbc hbu kk
  | laload => exact gx_lald g hd C hR hS hc0 hu0 hbc hbu kk
  | aaload => exact gx_aald g hd C hR hS hc0 hu0 hbc hbu kk
  | arraylength => exact gx_len g hd C hR hS hc0 hu0 hbc hbu kk
  | iastore => exact gx_iast g hd C hR hS hc0 hu0 hbc hbu kk
  | bastore => exact gx_bast g hd C hR hS hc0 hu0 hbc hbu kk
  | lastore => exact gx_last g hd C hR hS hc0 hu0 hbc hbu kk
  | aastore => exact gx_aast g hd C hR hS hc0 hu0 hbc hbu kk
  | newarray aty => exact gx_newa g hd C hR hS hc0 hu0 hbc hbu kk
  | anewarray idx => exact gx_newq g hd C hR hS hc0 hu0 hbc hbu kk
  | new idx => exact gx_newo g hd C hR hS hc0 hu0 hbc hbu kk
  | ldc idx =>
    obtain ⟨⟨hx, hb, hts, hown⟩, -, ⟨-, hcI, hcL, -⟩, -⟩ := C
    simp only [gst1] at g
    split at g
    · rename_i v hv
      split at g
      · rename_i hn
        subst hn
        obtain ⟨rfl, rfl, rfl⟩ := gr_eq g
        exact lv_ldc hx hb hown (hts _ (hcI idx v hv)) hd (kk H locs hR hS)
      · cases g
    · cases g
  | ldc_w idx =>
    obtain ⟨⟨hx, hb, hts, hown⟩, -, ⟨-, hcI, hcL, -⟩, -⟩ := C
    simp only [gst1] at g
    split at g
    · rename_i v hv
      split at g
      · rename_i hn
        subst hn
        obtain ⟨rfl, rfl, rfl⟩ := gr_eq g
        exact lv_ldcw hx hb hown (hts _ (hcI idx v hv)) hd (kk H locs hR hS)
      · cases g
    · cases g
  | ldc2_w idx =>
    obtain ⟨⟨hx, hb, hts, hown⟩, -, ⟨-, hcI, hcL, -⟩, -⟩ := C
    simp only [gst1] at g
    split at g
    · rename_i v hv
      split at g
      · rename_i hn
        subst hn
        obtain ⟨rfl, rfl, rfl⟩ := gr_eq g
        exact lv_ldc2 hx hb hown (hts _ (hcL idx v hv)) hd (kk H locs hR hS)
      · cases g
    · cases g
  | getstatic idx =>
    obtain ⟨⟨hx, hb, hts, hown⟩, -, ⟨-, -, -, hst, -⟩, -⟩ := C
    simp only [gst1] at g
    split at g
    · rename_i a ha
      split at g
      · rename_i hn
        subst hn
        obtain ⟨rfl, rfl, rfl⟩ := gr_eq g
        obtain ⟨C, nm, d, hZ, hl | ⟨host, hl⟩⟩ := hst idx a ha
        · exact va_gets hx hb hZ hS hown (hts _ hl) (fun _ q => q) hd (kk H locs hR hS)
        · exact va_getsN hx hb hZ hS hown (va_Nw.use rfl hl) (fun _ q => q) hd (kk H locs hR hS)
      · cases g
    · cases g
  | _ => cases g
end G1