/-! ===== the pure machine, II: the heap-free instructions are sound ===== -/
def gst0 (I : Instr) (n pc : Nat) (L : gL) (S : List Value) : Option gN := match I with
  | .iconst k => gpush n 1 pc L S (.int (Int32.ofInt k))
  | .bipush k => gpush n 2 pc L S (.int (Int8.ofInt k).toInt32)
  | .sipush k => gpush n 3 pc L S (.int (Int16.ofInt k).toInt32)
  | .lconst k => gpush n 1 pc L S (.long (Int64.ofNat (k : Nat)))
  | .aconst_null => gpush n 1 pc L S .null
  | .iload i => gild n 2 pc i L S
  | .iload_n i => gild n 1 pc i L S
  | .lload i => glld n 2 pc i L S
  | .lload_n i => glld n 1 pc i L S
  | .aload i => gald n 2 pc i L S
  | .aload_n i => gald n 1 pc i L S
  | .istore i => gist n 2 pc i L S
  | .istore_n i => gist n 1 pc i L S
  | .lstore i => glst n 2 pc i L S
  | .lstore_n i => glst n 1 pc i L S
  | .astore i => gast n 2 pc i L S
  | .astore_n i => gast n 1 pc i L S
  | .iinc i d => giinc n pc i d L S
  | .iadd => gII n pc L S (fun x y => x + y)
  | .isub => gII n pc L S (fun x y => x - y)
  | .imul => gII n pc L S (fun x y => x * y)
  | .iand => gII n pc L S (fun x y => x &&& y)
  | .ior => gII n pc L S (fun x y => x ||| y)
  | .ixor => gII n pc L S (fun x y => x ^^^ y)
  | .ishl => gII n pc L S (fun x y => x <<< (y &&& 31))
  | .ishr => gII n pc L S (fun x y => x >>> (y &&& 31))
  | .iushr => gII n pc L S (fun x y => (x.toUInt32 >>> (y.toUInt32 &&& Int32.toUInt32 31)).toInt32)
  | .idiv => match S with
    | .int y :: .int x :: S' => if n = 1 ∧ ¬ y = 0 then some (pc + 1, L, .int (x / y) :: S') else none
    | _ => none
  | .irem => match S with
    | .int y :: .int x :: S' => if n = 1 ∧ ¬ y = 0 then some (pc + 1, L, .int (x - x / y * y) :: S') else none
    | _ => none
  | .ldiv => match S with
    | .long y :: .long x :: S' => if n = 1 ∧ ¬ y = 0 then some (pc + 1, L, .long (x / y) :: S') else none
    | _ => none
  | .ineg => gI1 n pc L S (fun x => .int (-x))
  | .i2l => gI1 n pc L S (fun x => .long x.toInt64)
  | .i2b => gI1 n pc L S (fun x => .int x.toInt8.toInt32)
  | .l2i => gL1 n pc L S (fun x => .int x.toInt32)
  | .lneg => gL1 n pc L S (fun x => .long (-x))
  | .ladd => gLL n pc L S (fun x y => x + y)
  | .lsub => gLL n pc L S (fun x y => x - y)
  | .lmul => gLL n pc L S (fun x y => x * y)
  | .land => gLL n pc L S (fun x y => x &&& y)
  | .lshl => gLI n pc L S (fun x y => x <<< (y.toInt64 &&& 63))
  | .lshr => gLI n pc L S (fun x y => x >>> (y.toInt64 &&& 63))
  | .lcmp => match S with
    | .long y :: .long x :: S' => if n = 1 then some (pc + 1, L, .int (lg_cmp x y) :: S') else none
    | _ => none
  | .ifCond c off => gif n pc c off L S
  | .if_icmp c off => gicmp n pc c off L S
  | .goto off => if n = 3 then gtgt pc off L S else none
  | .ifnonnull off => gnn n pc off L S
  | .dup => gdup n pc L S
  | .dup2 => gdup2 n pc L S
  | .pop => gpop n pc L S
  | .tableswitch df lo hi offs => gtab pc df lo hi offs L S
  | .lookupswitch df ps => glook pc df ps L S
  | _ => none
section GS0
variable {p : Program} {l : Launch} {e : Env} {R : Room} {s : State} {m : MethodId} {args : Array Value} {below : List Frame} {meth : Method} {c : Code} {H : Heap} {locs : List Loc} {cells slots : Nat} {Q : State → Prop}
variable {cc : ByteArray} {pc : Nat} {ls : Array Slot} {ad : Nat → Nat} {n : Nat} {L L' : gL} {S S' : List Value} {pc' : Nat}
theorem gn_eq {a a' : Nat} {b b' : gL} {d d' : List Value} (h : some (a, b, d) = some (a', b', d')) : a = a' ∧ b = b' ∧ d = d' := by
  cases h; exact ⟨rfl, rfl, rfl⟩

theorem gw_push {k : Nat} {v : Value} (h : gpush n k pc L S v = some (pc', L', S')) (hl : gLs ad ls L) (kk : ∀ ls' : Array Slot, gLs ad ls' L' → W p l e R s m args below meth c H locs cells slots Q (F0 m pc' ls' (S'.map (gtv ad))))
    (row : W p l e R s m args below meth c H locs cells slots Q (F0 m (pc + k) ls (gtv ad v :: S.map (gtv ad))) → n = k → W p l e R s m args below meth c H locs cells slots Q (F0 m pc ls (S.map (gtv ad)))) : W p l e R s m args below meth c H locs cells slots Q (F0 m pc ls (S.map (gtv ad))) := by
  unfold gpush at h
  split at h
  · rename_i hn
    obtain ⟨rfl, rfl, rfl⟩ := gn_eq h
    exact row (kk ls hl) hn
  · cases h
theorem gw_II {f : Int32 → Int32 → Int32} (h : gII n pc L S f = some (pc', L', S')) (hl : gLs ad ls L) (kk : ∀ ls' : Array Slot, gLs ad ls' L' → W p l e R s m args below meth c H locs cells slots Q (F0 m pc' ls' (S'.map (gtv ad))))
    (row : ∀ (r : List Value) (x y : Int32), W p l e R s m args below meth c H locs cells slots Q (F0 m (pc + 1) ls (.int (f x y) :: r)) → n = 1 → W p l e R s m args below meth c H locs cells slots Q (F0 m pc ls (.int y :: .int x :: r))) : W p l e R s m args below meth c H locs cells slots Q (F0 m pc ls (S.map (gtv ad))) := by
  unfold gII at h
  split at h
  · split at h
    · rename_i hn
      obtain ⟨rfl, rfl, rfl⟩ := gn_eq h
      exact row _ _ _ (kk ls hl) hn
    · cases h
  · cases h
theorem gw_LL {f : Int64 → Int64 → Int64} (h : gLL n pc L S f = some (pc', L', S')) (hl : gLs ad ls L) (kk : ∀ ls' : Array Slot, gLs ad ls' L' → W p l e R s m args below meth c H locs cells slots Q (F0 m pc' ls' (S'.map (gtv ad))))
    (row : ∀ (r : List Value) (x y : Int64), W p l e R s m args below meth c H locs cells slots Q (F0 m (pc + 1) ls (.long (f x y) :: r)) → n = 1 → W p l e R s m args below meth c H locs cells slots Q (F0 m pc ls (.long y :: .long x :: r))) : W p l e R s m args below meth c H locs cells slots Q (F0 m pc ls (S.map (gtv ad))) := by
  unfold gLL at h
  split at h
  · split at h
    · rename_i hn
      obtain ⟨rfl, rfl, rfl⟩ := gn_eq h
      exact row _ _ _ (kk ls hl) hn
    · cases h
  · cases h
theorem gw_LI {f : Int64 → Int32 → Int64} (h : gLI n pc L S f = some (pc', L', S')) (hl : gLs ad ls L) (kk : ∀ ls' : Array Slot, gLs ad ls' L' → W p l e R s m args below meth c H locs cells slots Q (F0 m pc' ls' (S'.map (gtv ad))))
    (row : ∀ (r : List Value) (x : Int64) (y : Int32), W p l e R s m args below meth c H locs cells slots Q (F0 m (pc + 1) ls (.long (f x y) :: r)) → n = 1 → W p l e R s m args below meth c H locs cells slots Q (F0 m pc ls (.int y :: .long x :: r))) : W p l e R s m args below meth c H locs cells slots Q (F0 m pc ls (S.map (gtv ad))) := by
  unfold gLI at h
  split at h
  · split at h
    · rename_i hn
      obtain ⟨rfl, rfl, rfl⟩ := gn_eq h
      exact row _ _ _ (kk ls hl) hn
    · cases h
  · cases h
theorem gw_I1 {f : Int32 → Value} (h : gI1 n pc L S f = some (pc', L', S')) (hl : gLs ad ls L) (kk : ∀ ls' : Array Slot, gLs ad ls' L' → W p l e R s m args below meth c H locs cells slots Q (F0 m pc' ls' (S'.map (gtv ad))))
    (row : ∀ (r : List Value) (x : Int32), W p l e R s m args below meth c H locs cells slots Q (F0 m (pc + 1) ls (gtv ad (f x) :: r)) → n = 1 → W p l e R s m args below meth c H locs cells slots Q (F0 m pc ls (.int x :: r))) : W p l e R s m args below meth c H locs cells slots Q (F0 m pc ls (S.map (gtv ad))) := by
  unfold gI1 at h
  split at h
  · split at h
    · rename_i hn
      obtain ⟨rfl, rfl, rfl⟩ := gn_eq h
      exact row _ _ (kk ls hl) hn
    · cases h
  · cases h
theorem gw_L1 {f : Int64 → Value} (h : gL1 n pc L S f = some (pc', L', S')) (hl : gLs ad ls L) (kk : ∀ ls' : Array Slot, gLs ad ls' L' → W p l e R s m args below meth c H locs cells slots Q (F0 m pc' ls' (S'.map (gtv ad))))
    (row : ∀ (r : List Value) (x : Int64), W p l e R s m args below meth c H locs cells slots Q (F0 m (pc + 1) ls (gtv ad (f x) :: r)) → n = 1 → W p l e R s m args below meth c H locs cells slots Q (F0 m pc ls (.long x :: r))) : W p l e R s m args below meth c H locs cells slots Q (F0 m pc ls (S.map (gtv ad))) := by
  unfold gL1 at h
  split at h
  · split at h
    · rename_i hn
      obtain ⟨rfl, rfl, rfl⟩ := gn_eq h
      exact row _ _ (kk ls hl) hn
    · cases h
  · cases h
theorem gw_ild {k i : Nat} (h : gild n k pc i L S = some (pc', L', S')) (hl : gLs ad ls L) (kk : ∀ ls' : Array Slot, gLs ad ls' L' → W p l e R s m args below meth c H locs cells slots Q (F0 m pc' ls' (S'.map (gtv ad))))
    (row : ∀ x : Int32, ls[i]? = some (.val (.int x)) → W p l e R s m args below meth c H locs cells slots Q (F0 m (pc + k) ls (.int x :: S.map (gtv ad))) → n = k → W p l e R s m args below meth c H locs cells slots Q (F0 m pc ls (S.map (gtv ad)))) : W p l e R s m args below meth c H locs cells slots Q (F0 m pc ls (S.map (gtv ad))) := by
  unfold gild at h
  split at h
  · rename_i x hx
    split at h
    · rename_i hn
      obtain ⟨rfl, rfl, rfl⟩ := gn_eq h
      exact row x (hl.2.2 i _ hx) (kk ls hl) hn
    · cases h
  · cases h
theorem gw_lld {k i : Nat} (h : glld n k pc i L S = some (pc', L', S')) (hl : gLs ad ls L) (kk : ∀ ls' : Array Slot, gLs ad ls' L' → W p l e R s m args below meth c H locs cells slots Q (F0 m pc' ls' (S'.map (gtv ad))))
    (row : ∀ x : Int64, ls[i]? = some (.val (.long x)) → W p l e R s m args below meth c H locs cells slots Q (F0 m (pc + k) ls (.long x :: S.map (gtv ad))) → n = k → W p l e R s m args below meth c H locs cells slots Q (F0 m pc ls (S.map (gtv ad)))) : W p l e R s m args below meth c H locs cells slots Q (F0 m pc ls (S.map (gtv ad))) := by
  unfold glld at h
  split at h
  · rename_i x hx
    split at h
    · rename_i hn
      obtain ⟨rfl, rfl, rfl⟩ := gn_eq h
      exact row x (hl.2.2 i _ hx) (kk ls hl) hn
    · cases h
  · cases h
theorem gw_ald {k i : Nat} (h : gald n k pc i L S = some (pc', L', S')) (hl : gLs ad ls L) (kk : ∀ ls' : Array Slot, gLs ad ls' L' → W p l e R s m args below meth c H locs cells slots Q (F0 m pc' ls' (S'.map (gtv ad))))
    (row : ∀ x : Nat, ls[i]? = some (.val (.ref x)) → W p l e R s m args below meth c H locs cells slots Q (F0 m (pc + k) ls (.ref x :: S.map (gtv ad))) → n = k → W p l e R s m args below meth c H locs cells slots Q (F0 m pc ls (S.map (gtv ad))))
    (row0 : ls[i]? = some (.val .null) → W p l e R s m args below meth c H locs cells slots Q (F0 m (pc + k) ls (.null :: S.map (gtv ad))) → n = k → W p l e R s m args below meth c H locs cells slots Q (F0 m pc ls (S.map (gtv ad)))) : W p l e R s m args below meth c H locs cells slots Q (F0 m pc ls (S.map (gtv ad))) := by
  unfold gald at h
  split at h
  · rename_i x hx
    split at h
    · rename_i hn
      obtain ⟨rfl, rfl, rfl⟩ := gn_eq h
      exact row (ad x) (hl.2.2 i _ hx) (kk ls hl) hn
    · cases h
  · rename_i hx
    split at h
    · rename_i hn
      obtain ⟨rfl, rfl, rfl⟩ := gn_eq h
      exact row0 (hl.2.2 i _ hx) (kk ls hl) hn
    · cases h
  · cases h
theorem gw_ist {k i : Nat} (h : gist n k pc i L S = some (pc', L', S')) (hl : gLs ad ls L) (kk : ∀ ls' : Array Slot, gLs ad ls' L' → W p l e R s m args below meth c H locs cells slots Q (F0 m pc' ls' (S'.map (gtv ad))))
    (row : ∀ (r : List Value) (x : Int32), i < L.length → (∀ ls' : Array Slot, lv_has ls' L.length ((i, .int x) :: (gll ad L).filter (fun q => !(q.1 == i) && !(q.1 + 1 == i && q.2.category == 2))) → W p l e R s m args below meth c H locs cells slots Q (F0 m (pc + k) ls' r)) → n = k → W p l e R s m args below meth c H locs cells slots Q (F0 m pc ls (.int x :: r))) : W p l e R s m args below meth c H locs cells slots Q (F0 m pc ls (S.map (gtv ad))) := by
  unfold gist at h
  split at h
  · rename_i x S1
    split at h
    · rename_i hn
      obtain ⟨rfl, rfl, rfl⟩ := gn_eq h
      exact row _ x hn.2 (fun ls' h' => kk ls' (gLs_sto1 (ad := ad) (v := .int x) rfl h')) hn.1
    · cases h
  · cases h
theorem gw_ast {k i : Nat} (h : gast n k pc i L S = some (pc', L', S')) (hl : gLs ad ls L) (kk : ∀ ls' : Array Slot, gLs ad ls' L' → W p l e R s m args below meth c H locs cells slots Q (F0 m pc' ls' (S'.map (gtv ad))))
    (row : ∀ (r : List Value) (x : Nat), i < L.length → (∀ ls' : Array Slot, lv_has ls' L.length ((i, .ref (ad x)) :: (gll ad L).filter (fun q => !(q.1 == i) && !(q.1 + 1 == i && q.2.category == 2))) → W p l e R s m args below meth c H locs cells slots Q (F0 m (pc + k) ls' r)) → n = k → W p l e R s m args below meth c H locs cells slots Q (F0 m pc ls (.ref (ad x) :: r))) : W p l e R s m args below meth c H locs cells slots Q (F0 m pc ls (S.map (gtv ad))) := by
  unfold gast at h
  split at h
  · rename_i x S1
    split at h
    · rename_i hn
      obtain ⟨rfl, rfl, rfl⟩ := gn_eq h
      exact row _ x hn.2 (fun ls' h' => kk ls' (gLs_sto1 (ad := ad) (v := .ref x) rfl h')) hn.1
    · cases h
  · cases h
theorem gw_lst {k i : Nat} (h : glst n k pc i L S = some (pc', L', S')) (hl : gLs ad ls L) (kk : ∀ ls' : Array Slot, gLs ad ls' L' → W p l e R s m args below meth c H locs cells slots Q (F0 m pc' ls' (S'.map (gtv ad))))
    (row : ∀ (r : List Value) (x : Int64), i + 1 < L.length → (∀ ls' : Array Slot, lv_has ls' L.length ((i, .long x) :: (gll ad L).filter (fun q => !(q.1 == i) && (!(q.1 == i + 1) && !(q.1 + 1 == i && q.2.category == 2)))) → W p l e R s m args below meth c H locs cells slots Q (F0 m (pc + k) ls' r)) → n = k → W p l e R s m args below meth c H locs cells slots Q (F0 m pc ls (.long x :: r))) : W p l e R s m args below meth c H locs cells slots Q (F0 m pc ls (S.map (gtv ad))) := by
  unfold glst at h
  split at h
  · rename_i x S1
    split at h
    · rename_i hn
      obtain ⟨rfl, rfl, rfl⟩ := gn_eq h
      exact row _ x hn.2 (fun ls' h' => kk ls' (gLs_sto2 (ad := ad) (v := .long x) h')) hn.1
    · cases h
  · cases h
theorem gw_iinc {i : Nat} {d : Int} (hx : p.tables.exec = Jvm.exec) (hb : c.code = cc) (hl : gLs ad ls L) (h : giinc n pc i d L S = some (pc', L', S')) (hd : decode cc pc = .ok (.iinc i d, n)) (kk : ∀ ls' : Array Slot, gLs ad ls' L' → W p l e R s m args below meth c H locs cells slots Q (F0 m pc' ls' (S'.map (gtv ad)))) : W p l e R s m args below meth c H locs cells slots Q (F0 m pc ls (S.map (gtv ad))) := by
  unfold giinc at h
  split at h
  · rename_i x hx9
    split at h
    · rename_i hn
      obtain ⟨rfl, rfl, rfl⟩ := gn_eq h
      obtain ⟨hn, hi⟩ := hn
      subst hn
      obtain ⟨k, hk⟩ := List.getElem?_of_mem (gll_mem (q := (i, gtv ad (.int x))).mpr ⟨_, hx9, rfl⟩)
      exact lv_iinc hx hb hd hl.has hk rfl hi rfl (fun ls' h' => kk ls' (gLs_sto1 (ad := ad) (v := .int (x + Int32.ofInt d)) rfl h'))
    · cases h
  · cases h
theorem gw_tgt {off : Int} (h : gtgt pc off L S = some (pc', L', S')) : ((pc : Int) + off = (pc' : Int)) ∧ L' = L ∧ S' = S := by
  unfold gtgt at h
  split at h
  · rename_i h0
    obtain ⟨rfl, rfl, rfl⟩ := gn_eq h
    exact ⟨by omega, rfl, rfl⟩
  · cases h

theorem gw_if {cd : ClassFile.Cond} {off : Int} (hx : p.tables.exec = Jvm.exec) (hb : c.code = cc) (hl : gLs ad ls L) (h : gif n pc cd off L S = some (pc', L', S')) (hd : decode cc pc = .ok (.ifCond cd off, n)) (kk : ∀ ls' : Array Slot, gLs ad ls' L' → W p l e R s m args below meth c H locs cells slots Q (F0 m pc' ls' (S'.map (gtv ad)))) : W p l e R s m args below meth c H locs cells slots Q (F0 m pc ls (S.map (gtv ad))) := by
  unfold gif at h
  split at h
  · rename_i x S1
    split at h
    · rename_i hn
      obtain ⟨hn, h0⟩ := hn
      subst hn
      have ht : (pc : Int) + off = ((((pc : Int) + off).toNat : Nat) : Int) := by omega
      split at h
      · rename_i hc
        obtain ⟨rfl, rfl, rfl⟩ := gn_eq h
        have kk := kk ls hl
        cases cd <;> simp only [gholds, decide_eq_true_eq] at hc
        · exact lv_if_eq hx hb hd ht (fun _ => kk) (fun q => absurd hc q)
        · exact lv_if_ne hx hb hd ht (fun _ => kk) (fun q => absurd q hc)
        · exact lv_if_lt hx hb hd ht (fun _ => kk) (fun q => absurd hc q)
        · exact lv_if_ge hx hb hd ht (fun _ => kk) (fun q => absurd hc q)
        · exact lv_if_gt hx hb hd ht (fun _ => kk) (fun q => absurd hc q)
        · exact lv_if_le hx hb hd ht (fun _ => kk) (fun q => absurd hc q)
      · rename_i hc
        obtain ⟨rfl, rfl, rfl⟩ := gn_eq h
        have kk := kk ls hl
        cases cd <;> simp only [gholds, decide_eq_true_eq] at hc
        · exact lv_if_eq hx hb hd ht (fun q => absurd q hc) (fun _ => kk)
        · exact lv_if_ne hx hb hd ht (fun q => absurd q hc) (fun _ => kk)
        · exact lv_if_lt hx hb hd ht (fun q => absurd q hc) (fun _ => kk)
        · exact lv_if_ge hx hb hd ht (fun q => absurd q hc) (fun _ => kk)
        · exact lv_if_gt hx hb hd ht (fun q => absurd q hc) (fun _ => kk)
        · exact lv_if_le hx hb hd ht (fun q => absurd q hc) (fun _ => kk)
    · cases h
  · cases h
theorem gw_icmp {cd : ClassFile.Cond} {off : Int} (hx : p.tables.exec = Jvm.exec) (hb : c.code = cc) (hl : gLs ad ls L) (h : gicmp n pc cd off L S = some (pc', L', S')) (hd : decode cc pc = .ok (.if_icmp cd off, n)) (kk : ∀ ls' : Array Slot, gLs ad ls' L' → W p l e R s m args below meth c H locs cells slots Q (F0 m pc' ls' (S'.map (gtv ad)))) : W p l e R s m args below meth c H locs cells slots Q (F0 m pc ls (S.map (gtv ad))) := by
  unfold gicmp at h
  split at h
  · rename_i y x S1
    split at h
    · rename_i hn
      obtain ⟨hn, h0⟩ := hn
      subst hn
      have ht : (pc : Int) + off = ((((pc : Int) + off).toNat : Nat) : Int) := by omega
      split at h
      · rename_i hc
        obtain ⟨rfl, rfl, rfl⟩ := gn_eq h
        have kk := kk ls hl
        cases cd <;> simp only [gholds, decide_eq_true_eq] at hc
        · exact lv_icmp_eq hx hb hd ht (fun _ => kk) (fun q => absurd hc q)
        · exact lv_icmp_ne hx hb hd ht (fun _ => kk) (fun q => absurd q hc)
        · exact lv_icmp_lt hx hb hd ht (fun _ => kk) (fun q => absurd hc q)
        · exact lv_icmp_ge hx hb hd ht (fun _ => kk) (fun q => absurd hc q)
        · exact lv_icmp_gt hx hb hd ht (fun _ => kk) (fun q => absurd hc q)
        · exact lv_icmp_le hx hb hd ht (fun _ => kk) (fun q => absurd hc q)
      · rename_i hc
        obtain ⟨rfl, rfl, rfl⟩ := gn_eq h
        have kk := kk ls hl
        cases cd <;> simp only [gholds, decide_eq_true_eq] at hc
        · exact lv_icmp_eq hx hb hd ht (fun q => absurd q hc) (fun _ => kk)
        · exact lv_icmp_ne hx hb hd ht (fun q => absurd q hc) (fun _ => kk)
        · exact lv_icmp_lt hx hb hd ht (fun q => absurd q hc) (fun _ => kk)
        · exact lv_icmp_ge hx hb hd ht (fun q => absurd q hc) (fun _ => kk)
        · exact lv_icmp_gt hx hb hd ht (fun q => absurd q hc) (fun _ => kk)
        · exact lv_icmp_le hx hb hd ht (fun q => absurd q hc) (fun _ => kk)
    · cases h
  · cases h
theorem gw_nn {off : Int} (hx : p.tables.exec = Jvm.exec) (hb : c.code = cc) (hl : gLs ad ls L) (h : gnn n pc off L S = some (pc', L', S')) (hd : decode cc pc = .ok (.ifnonnull off, n)) (kk : ∀ ls' : Array Slot, gLs ad ls' L' → W p l e R s m args below meth c H locs cells slots Q (F0 m pc' ls' (S'.map (gtv ad)))) : W p l e R s m args below meth c H locs cells slots Q (F0 m pc ls (S.map (gtv ad))) := by
  unfold gnn at h
  split at h
  · split at h
    · rename_i hn
      subst hn
      obtain ⟨ht, rfl, rfl⟩ := gw_tgt h
      exact lv_ifnonnull hx hb hd ht (kk ls hl)
    · cases h
  · split at h
    · rename_i hn
      subst hn
      obtain ⟨rfl, rfl, rfl⟩ := gn_eq h
      exact lv_ifnonnullN hx hb hd (kk ls hl)
    · cases h
  · cases h
theorem gw_dup (hx : p.tables.exec = Jvm.exec) (hb : c.code = cc) (hl : gLs ad ls L) (h : gdup n pc L S = some (pc', L', S')) (hd : decode cc pc = .ok (.dup, n)) (kk : ∀ ls' : Array Slot, gLs ad ls' L' → W p l e R s m args below meth c H locs cells slots Q (F0 m pc' ls' (S'.map (gtv ad)))) : W p l e R s m args below meth c H locs cells slots Q (F0 m pc ls (S.map (gtv ad))) := by
  unfold gdup at h
  split at h
  · split at h
    · rename_i hn
      obtain ⟨hn, h1⟩ := hn
      subst hn
      obtain ⟨rfl, rfl, rfl⟩ := gn_eq h
      exact lv_dup hx hb hd (by rw [gtv_cat]; exact h1) (kk ls hl)
    · cases h
  · cases h
theorem gw_dup2 (hx : p.tables.exec = Jvm.exec) (hb : c.code = cc) (hl : gLs ad ls L) (h : gdup2 n pc L S = some (pc', L', S')) (hd : decode cc pc = .ok (.dup2, n)) (kk : ∀ ls' : Array Slot, gLs ad ls' L' → W p l e R s m args below meth c H locs cells slots Q (F0 m pc' ls' (S'.map (gtv ad)))) : W p l e R s m args below meth c H locs cells slots Q (F0 m pc ls (S.map (gtv ad))) := by
  unfold gdup2 at h
  split at h
  · split at h
    · rename_i hn
      obtain ⟨hn, h1, h2⟩ := hn
      subst hn
      obtain ⟨rfl, rfl, rfl⟩ := gn_eq h
      exact lv_dup2_11 hx hb hd (by rw [gtv_cat]; exact h1) (by rw [gtv_cat]; exact h2) (kk ls hl)
    · cases h
  · cases h
theorem gw_pop (hx : p.tables.exec = Jvm.exec) (hb : c.code = cc) (hl : gLs ad ls L) (h : gpop n pc L S = some (pc', L', S')) (hd : decode cc pc = .ok (.pop, n)) (kk : ∀ ls' : Array Slot, gLs ad ls' L' → W p l e R s m args below meth c H locs cells slots Q (F0 m pc' ls' (S'.map (gtv ad)))) : W p l e R s m args below meth c H locs cells slots Q (F0 m pc ls (S.map (gtv ad))) := by
  unfold gpop at h
  split at h
  · split at h
    · rename_i hn
      obtain ⟨hn, h1⟩ := hn
      subst hn
      obtain ⟨rfl, rfl, rfl⟩ := gn_eq h
      exact lv_pop hx hb hd (by rw [gtv_cat]; exact h1) (kk ls hl)
    · cases h
  · cases h
set_option maxHeartbeats 4000000 in
theorem gst0_W {I : Instr} (hx : p.tables.exec = Jvm.exec) (hb : c.code = cc) (hl : gLs ad ls L) (h : gst0 I n pc L S = some (pc', L', S')) (hd : decode cc pc = .ok (I, n)) (kk : ∀ ls' : Array Slot, gLs ad ls' L' → W p l e R s m args below meth c H locs cells slots Q (F0 m pc' ls' (S'.map (gtv ad)))) : W p l e R s m args below meth c H locs cells slots Q (F0 m pc ls (S.map (gtv ad))) := by
  cases I with
  | iconst k =>
    exact gw_push h hl kk (fun q e => by subst e; exact lv_iconst hx hb hd rfl q)
  | bipush k =>
    exact gw_push h hl kk (fun q e => by subst e; exact lv_bipush hx hb hd rfl q)
  | sipush k =>
    exact gw_push h hl kk (fun q e => by subst e; exact lv_sipush hx hb hd rfl q)
  | lconst k =>
    exact gw_push h hl kk (fun q e => by subst e; exact lv_lconst hx hb hd rfl q)
  | aconst_null =>
    exact gw_push h hl kk (fun q e => by subst e; exact lv_null hx hb hd q)
  | iload i =>
    exact gw_ild h hl kk (fun x hi q e => by subst e; exact lv_iload hx hb hd hi q)
  | iload_n i =>
    exact gw_ild h hl kk (fun x hi q e => by subst e; exact lv_iload_n hx hb hd rfl hi q)
  | lload i =>
    exact gw_lld h hl kk (fun x hi q e => by subst e; exact lv_lload hx hb hd hi q)
  | lload_n i =>
    exact gw_lld h hl kk (fun x hi q e => by subst e; exact lv_lload_n hx hb hd rfl hi q)
  | aload i =>
    exact gw_ald h hl kk (fun x hi q e => by subst e; exact lv_aload hx hb hd hi q) (fun hi q e => by subst e; exact lv_aloadN hx hb hd hi q)
  | aload_n i =>
    exact gw_ald h hl kk (fun x hi q e => by subst e; exact lv_aload_n hx hb hd rfl hi q) (fun hi q e => by subst e; exact lv_aload_nN hx hb hd rfl hi q)
  | istore i =>
    exact gw_ist h hl kk (fun r x hi q e => by subst e; exact lv_istore hx hb hd hl.has hi rfl q)
  | istore_n i =>
    exact gw_ist h hl kk (fun r x hi q e => by subst e; exact lv_istore_n hx hb hd rfl hl.has hi rfl q)
  | lstore i =>
    exact gw_lst h hl kk (fun r x hi q e => by subst e; exact lv_lstore hx hb hd hl.has hi rfl q)
  | lstore_n i =>
    exact gw_lst h hl kk (fun r x hi q e => by subst e; exact lv_lstore_n hx hb hd rfl hl.has hi rfl q)
  | astore i =>
    exact gw_ast h hl kk (fun r x hi q e => by subst e; exact lv_astore hx hb hd hl.has hi rfl q)
  | astore_n i =>
    exact gw_ast h hl kk (fun r x hi q e => by subst e; exact lv_astore_n hx hb hd rfl hl.has hi rfl q)
  | iinc i d =>
    exact gw_iinc hx hb hl h hd kk
  | iadd =>
    exact gw_II h hl kk (fun r x y q e => by subst e; exact lv_iadd hx hb hd q)
  | isub =>
    exact gw_II h hl kk (fun r x y q e => by subst e; exact lv_isub hx hb hd q)
  | imul =>
    exact gw_II h hl kk (fun r x y q e => by subst e; exact lv_imul hx hb hd q)
  | iand =>
    exact gw_II h hl kk (fun r x y q e => by subst e; exact lv_iand hx hb hd q)
  | ior =>
    exact gw_II h hl kk (fun r x y q e => by subst e; exact lv_ior hx hb hd q)
  | ixor =>
    exact gw_II h hl kk (fun r x y q e => by subst e; exact lv_ixor hx hb hd q)
  | ishl =>
    exact gw_II h hl kk (fun r x y q e => by subst e; exact lv_ishl hx hb hd q)
  | ishr =>
    exact gw_II h hl kk (fun r x y q e => by subst e; exact lv_ishr hx hb hd q)
  | iushr =>
    exact gw_II h hl kk (fun r x y q e => by subst e; exact lv_iushr hx hb hd rfl q)
  | ladd =>
    exact gw_LL h hl kk (fun r x y q e => by subst e; exact lv_ladd hx hb hd q)
  | lsub =>
    exact gw_LL h hl kk (fun r x y q e => by subst e; exact lv_lsub hx hb hd q)
  | lmul =>
    exact gw_LL h hl kk (fun r x y q e => by subst e; exact lv_lmul hx hb hd q)
  | land =>
    exact gw_LL h hl kk (fun r x y q e => by subst e; exact lv_land hx hb hd q)
  | lshl =>
    exact gw_LI h hl kk (fun r x y q e => by subst e; exact lv_lshl hx hb hd rfl q)
  | lshr =>
    exact gw_LI h hl kk (fun r x y q e => by subst e; exact lv_lshr hx hb hd rfl q)
  | ineg =>
    exact gw_I1 h hl kk (fun r x q e => by subst e; exact lv_ineg hx hb hd q)
  | i2l =>
    exact gw_I1 h hl kk (fun r x q e => by subst e; exact lv_i2l hx hb hd rfl q)
  | i2b =>
    exact gw_I1 h hl kk (fun r x q e => by subst e; exact lv_i2b hx hb hd rfl q)
  | l2i =>
    exact gw_L1 h hl kk (fun r x q e => by subst e; exact lv_l2i hx hb hd rfl q)
  | lneg =>
    exact gw_L1 h hl kk (fun r x q e => by subst e; exact lv_lneg hx hb hd q)
  | idiv =>
    simp only [gst0] at h
    split at h
    · split at h
      · rename_i hn
        obtain ⟨hn, h1⟩ := hn
        subst hn
        obtain ⟨rfl, rfl, rfl⟩ := gn_eq h
        exact lv_idiv hx hb hd h1 (kk ls hl)
      · cases h
    · cases h
  | irem =>
    simp only [gst0] at h
    split at h
    · split at h
      · rename_i hn
        obtain ⟨hn, h1⟩ := hn
        subst hn
        obtain ⟨rfl, rfl, rfl⟩ := gn_eq h
        exact lv_irem hx hb hd h1 (kk ls hl)
      · cases h
    · cases h
  | ldiv =>
    simp only [gst0] at h
    split at h
    · split at h
      · rename_i hn
        obtain ⟨hn, h1⟩ := hn
        subst hn
        obtain ⟨rfl, rfl, rfl⟩ := gn_eq h
        exact lv_ldiv hx hb hd h1 (kk ls hl)
      · cases h
    · cases h
  | lcmp =>
    simp only [gst0] at h
    split at h
    · split at h
      · rename_i hn
        subst hn
        obtain ⟨rfl, rfl, rfl⟩ := gn_eq h
        exact W.lcmp hx hb hd (kk ls hl)
      · cases h
    · cases h
  | ifCond cd off =>
    exact gw_if hx hb hl h hd kk
  | if_icmp cd off =>
    exact gw_icmp hx hb hl h hd kk
  | goto off =>
    simp only [gst0] at h
    split at h
    · rename_i hn
      subst hn
      obtain ⟨ht, rfl, rfl⟩ := gw_tgt h
      exact lv_goto hx hb hd ht (kk ls hl)
    · cases h
  | ifnonnull off =>
    exact gw_nn hx hb hl h hd kk
  | dup =>
    exact gw_dup hx hb hl h hd kk
  | dup2 =>
    exact gw_dup2 hx hb hl h hd kk
  | tableswitch df lo hi offs =>
    simp only [gst0, gtab] at h
    split at h
    · split at h
      · rename_i hn
        obtain ⟨ht, rfl, rfl⟩ := gw_tgt h
        exact lv_tableOut hx hb hd hn ht (kk ls hl)
      · rename_i hn
        split at h
        · rename_i off ho
          obtain ⟨ht, rfl, rfl⟩ := gw_tgt h
          exact lv_tableIn hx hb hd (fun q => hn (Or.inl q)) (fun q => hn (Or.inr q)) ho ht (kk ls hl)
        · cases h
    · cases h
  | lookupswitch df ps =>
    simp only [gst0, glook] at h
    split at h
    · split at h
      · rename_i hn
        obtain ⟨ht, rfl, rfl⟩ := gw_tgt h
        exact lv_lookup hx hb hd hn rfl ht (kk ls hl)
      · cases h
    · cases h
  | pop =>
    exact gw_pop hx hb hl h hd kk
  | _ => cases h
end GS0