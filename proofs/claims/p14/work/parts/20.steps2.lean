/-! ===== runs: a stretch of heap-free instructions at once; heap instructions one by one ===== -/
def gnx (t : gMt) (q : gN) : Option gN := match glk q.1 (gmC t) with
  | some (I, len) => if gexit I = true ∨ q.1 ∈ gmE t ∨ (gci I).isSome = true then none else gst0 I len q.1 q.2.1 q.2.2
  | none => none
def gnk (t : gMt) : Nat → gN → Option gN
  | 0, q => some q
  | k + 1, q => match gnx t q with
    | some q' => gnk t k q'
    | none => none
section GRS2
variable {P : Nat → Option gMt} {G : gG} {cn : Nat → Option Nat} {d : Nat} {t : gMt} {pc pc' : Nat} {L L' : gL} {S S' : List Value} {h h' : gH} {F : gR → gL → Prop} {I : Instr} {len : Nat}
theorem gz_x {q q' : gN} (hs : gnx t q = some q') (k : gz P G cn d t q'.1 q'.2.1 q'.2.2 h F) : gz P G cn d t q.1 q.2.1 q.2.2 h F := by
  unfold gnx at hs
  split at hs
  · rename_i I len hlk
    split at hs
    · cases hs
    · rename_i hn
      have hci : gci I = none := by
        cases hg : gci I with
        | none => rfl
        | some v => exact absurd (Or.inr (Or.inr (by rw [hg]; rfl))) hn
      exact gz_0 hlk (fun q => hn (q.elim Or.inl (fun z => Or.inr (Or.inl z)))) hci hs k
  · cases hs
theorem gz_k : ∀ (n : Nat) (q q' : gN), gnk t n q = some q' → gz P G cn d t q'.1 q'.2.1 q'.2.2 h F → gz P G cn d t q.1 q.2.1 q.2.2 h F
  | 0, q, q', hs, k => by
    unfold gnk at hs
    cases hs
    exact k
  | n + 1, q, q', hs, k => by
    unfold gnk at hs
    split at hs
    · rename_i q1 h1
      exact gz_x h1 (gz_k n q1 q' hs k)
    · cases hs
theorem gz_s (n : Nat) (hs : gnk t n (pc, L, S) = some (pc', L', S')) (k : gz P G cn d t pc' L' S' h F) : gz P G cn d t pc L S h F := gz_k n (pc, L, S) (pc', L', S') hs k
/-- which branch: the test is true -/
theorem gz_icT {c : ClassFile.Cond} {off : Int} {x y : Int32} (hlk : glk pc (gmC t) = some (.if_icmp c off, 3)) (hx : ¬ pc ∈ gmE t) (ht : (pc : Int) + off = (pc' : Int)) (hc : gholds c x y = true) (k : gz P G cn d t pc' L S h F) : gz P G cn d t pc L (.int y :: .int x :: S) h F := by
  refine gz_0 hlk (fun q => q.elim (fun z => by cases z) hx) rfl ?_ k
  simp only [gst0, gicmp]
  rw [if_pos ⟨trivial, by omega⟩, if_pos hc]
  simp [ht]
theorem gz_icF {c : ClassFile.Cond} {off : Int} {x y : Int32} (hlk : glk pc (gmC t) = some (.if_icmp c off, 3)) (hx : ¬ pc ∈ gmE t) (ht : 0 ≤ (pc : Int) + off) (hc : gholds c x y = false) (k : gz P G cn d t (pc + 3) L S h F) : gz P G cn d t pc L (.int y :: .int x :: S) h F := by
  refine gz_0 hlk (fun q => q.elim (fun z => by cases z) hx) rfl ?_ k
  simp only [gst0, gicmp]
  rw [if_pos ⟨trivial, ht⟩, if_neg (by rw [hc]; decide)]
theorem gz_ifT {c : ClassFile.Cond} {off : Int} {x : Int32} (hlk : glk pc (gmC t) = some (.ifCond c off, 3)) (hx : ¬ pc ∈ gmE t) (ht : (pc : Int) + off = (pc' : Int)) (hc : gholds c x 0 = true) (k : gz P G cn d t pc' L S h F) : gz P G cn d t pc L (.int x :: S) h F := by
  refine gz_0 hlk (fun q => q.elim (fun z => by cases z) hx) rfl ?_ k
  simp only [gst0, gif]
  rw [if_pos ⟨trivial, by omega⟩, if_pos hc]
  simp [ht]
theorem gz_ifF {c : ClassFile.Cond} {off : Int} {x : Int32} (hlk : glk pc (gmC t) = some (.ifCond c off, 3)) (hx : ¬ pc ∈ gmE t) (ht : 0 ≤ (pc : Int) + off) (hc : gholds c x 0 = false) (k : gz P G cn d t (pc + 3) L S h F) : gz P G cn d t pc L (.int x :: S) h F := by
  refine gz_0 hlk (fun q => q.elim (fun z => by cases z) hx) rfl ?_ k
  simp only [gst0, gif]
  rw [if_pos ⟨trivial, ht⟩, if_neg (by rw [hc]; decide)]
theorem gz_div {x y : Int32} (hlk : glk pc (gmC t) = some (.idiv, 1)) (hx : ¬ pc ∈ gmE t) (hy : ¬ y = 0) (k : gz P G cn d t (pc + 1) L (.int (x / y) :: S) h F) : gz P G cn d t pc L (.int y :: .int x :: S) h F := by
  refine gz_0 hlk (fun q => q.elim (fun z => by cases z) hx) rfl ?_ k
  simp only [gst0]
  rw [if_pos ⟨trivial, hy⟩]
theorem gz_rem {x y : Int32} (hlk : glk pc (gmC t) = some (.irem, 1)) (hx : ¬ pc ∈ gmE t) (hy : ¬ y = 0) (k : gz P G cn d t (pc + 1) L (.int (x - x / y * y) :: S) h F) : gz P G cn d t pc L (.int y :: .int x :: S) h F := by
  refine gz_0 hlk (fun q => q.elim (fun z => by cases z) hx) rfl ?_ k
  simp only [gst0]
  rw [if_pos ⟨trivial, hy⟩]
theorem gz_ldiv {x y : Int64} (hlk : glk pc (gmC t) = some (.ldiv, 1)) (hx : ¬ pc ∈ gmE t) (hy : ¬ y = 0) (k : gz P G cn d t (pc + 1) L (.long (x / y) :: S) h F) : gz P G cn d t pc L (.long y :: .long x :: S) h F := by
  refine gz_0 hlk (fun q => q.elim (fun z => by cases z) hx) rfl ?_ k
  simp only [gst0]
  rw [if_pos ⟨trivial, hy⟩]
theorem gz_get {idx ci k a : Nat} {v : Value} (hlk : glk pc (gmC t) = some (.getfield idx, 3)) (hx : ¬ pc ∈ gmE t) (hf : (gmK t).1 idx = some (ci, k)) (h0 : G.2.2.2.2 ≤ a) (h1 : a < h.1) (hk : h.2.2.1 a = some (.inr ci)) (hv : h.2.2.2.2 a k = v) (kk : gz P G cn d t (pc + 3) L (v :: S) h F) : gz P G cn d t pc L (.ref a :: S) h F := by
  refine gz_1 hlk (fun q => q.elim (fun z => by cases z) hx) rfl rfl ?_ kk
  simp only [gst1, ggetf, hf]
  rw [if_pos ⟨trivial, h0, h1, hk⟩, hv]
theorem gz_put {idx ci k a : Nat} {v : Value} (hlk : glk pc (gmC t) = some (.putfield idx, 3)) (hx : ¬ pc ∈ gmE t) (hf : (gmK t).1 idx = some (ci, k)) (h0 : G.2.2.2.2 ≤ a) (h1 : a < h.1) (hk : h.2.2.1 a = some (.inr ci)) (hv : gfit (G.2.1 ci k) v = true) (hfin : G.2.2.1 ci k = false ∨ gmI t = some ci) (kk : gz P G cn d t (pc + 3) L S (gput h a k v) F) : gz P G cn d t pc L (v :: .ref a :: S) h F := by
  refine gz_1 hlk (fun q => q.elim (fun z => by cases z) hx) rfl rfl ?_ kk
  simp only [gst1, gputf, hf]
  rw [if_pos ⟨trivial, h0, h1, hk, hv, hfin⟩]
theorem gz_iald {a u : Nat} {i : Int32} {v : Value} (hlk : glk pc (gmC t) = some (.iaload, 1)) (hx : ¬ pc ∈ gmE t) (h1 : a < h.1) (hk : h.2.2.1 a = some (.inl u)) (hty : G.1[u]? = some .int) (hin : gin i (h.2.2.2.1 a) = true) (hv : h.2.2.2.2 a i.toNatClampNeg = v) (kk : gz P G cn d t (pc + 1) L (v :: S) h F) : gz P G cn d t pc L (.int i :: .ref a :: S) h F := by
  refine gz_1 hlk (fun q => q.elim (fun z => by cases z) hx) rfl rfl ?_ kk
  simp only [gst1, gxald, hk, hty]
  rw [if_pos ⟨trivial, h1, rfl, hin⟩, hv]
theorem gz_bald {a u : Nat} {i : Int32} {v : Value} (hlk : glk pc (gmC t) = some (.baload, 1)) (hx : ¬ pc ∈ gmE t) (h1 : a < h.1) (hk : h.2.2.1 a = some (.inl u)) (hty : G.1[u]? = some .byte ∨ G.1[u]? = some .boolean) (hin : gin i (h.2.2.2.1 a) = true) (hv : h.2.2.2.2 a i.toNatClampNeg = v) (kk : gz P G cn d t (pc + 1) L (v :: S) h F) : gz P G cn d t pc L (.int i :: .ref a :: S) h F := by
  refine gz_1 hlk (fun q => q.elim (fun z => by cases z) hx) rfl rfl ?_ kk
  rcases hty with hty | hty
  · simp only [gst1, gxald, hk, hty]
    rw [if_pos ⟨trivial, h1, rfl, hin⟩, hv]
  · simp only [gst1, gxald, hk, hty]
    rw [if_pos ⟨trivial, h1, rfl, hin⟩, hv]
theorem gz_iast {a u : Nat} {j x : Int32} (hlk : glk pc (gmC t) = some (.iastore, 1)) (hx : ¬ pc ∈ gmE t) (h0 : G.2.2.2.2 ≤ a) (h1 : a < h.1) (hk : h.2.2.1 a = some (.inl u)) (hty : G.1[u]? = some .int) (hin : gin j (h.2.2.2.1 a) = true) (kk : gz P G cn d t (pc + 1) L S (gput h a j.toNatClampNeg (.int x)) F) : gz P G cn d t pc L (.int x :: .int j :: .ref a :: S) h F := by
  refine gz_1 hlk (fun q => q.elim (fun z => by cases z) hx) rfl rfl ?_ kk
  simp only [gst1, gxast, hk, hty]
  rw [if_pos ⟨trivial, h0, h1, hin⟩]
theorem gz_bast {a u : Nat} {j x : Int32} (hlk : glk pc (gmC t) = some (.bastore, 1)) (hx : ¬ pc ∈ gmE t) (h0 : G.2.2.2.2 ≤ a) (h1 : a < h.1) (hk : h.2.2.1 a = some (.inl u)) (hty : G.1[u]? = some .byte) (hin : gin j (h.2.2.2.1 a) = true) (kk : gz P G cn d t (pc + 1) L S (gput h a j.toNatClampNeg (.int x.toInt8.toInt32)) F) : gz P G cn d t pc L (.int x :: .int j :: .ref a :: S) h F := by
  refine gz_1 hlk (fun q => q.elim (fun z => by cases z) hx) rfl rfl ?_ kk
  simp only [gst1, gxast, hk, hty]
  rw [if_pos ⟨trivial, h0, h1, hin⟩]
theorem gz_last {a u : Nat} {j : Int32} {x : Int64} (hlk : glk pc (gmC t) = some (.lastore, 1)) (hx : ¬ pc ∈ gmE t) (h0 : G.2.2.2.2 ≤ a) (h1 : a < h.1) (hk : h.2.2.1 a = some (.inl u)) (hty : G.1[u]? = some .long) (hin : gin j (h.2.2.2.1 a) = true) (kk : gz P G cn d t (pc + 1) L S (gput h a j.toNatClampNeg (.long x)) F) : gz P G cn d t pc L (.long x :: .int j :: .ref a :: S) h F := by
  refine gz_1 hlk (fun q => q.elim (fun z => by cases z) hx) rfl rfl ?_ kk
  simp only [gst1, gilast, hk]
  rw [if_pos ⟨hty, trivial, h0, h1, hin⟩]
theorem gz_len {a u : Nat} {ty : FieldType} (hlk : glk pc (gmC t) = some (.arraylength, 1)) (hx : ¬ pc ∈ gmE t) (h1 : a < h.1) (hk : h.2.2.1 a = some (.inl u)) (hty : G.1[u]? = some ty) (kk : gz P G cn d t (pc + 1) L (.int (nI (h.2.2.2.1 a)) :: S) h F) : gz P G cn d t pc L (.ref a :: S) h F := by
  refine gz_1 hlk (fun q => q.elim (fun z => by cases z) hx) rfl rfl ?_ kk
  simp only [gst1, gxlen, hk, hty]
  rw [if_pos ⟨trivial, h1⟩]
theorem gz_newa {aty : ArrayType} {u : Nat} {k : Int32} (hlk : glk pc (gmC t) = some (.newarray aty, 2)) (hx : ¬ pc ∈ gmE t) (hu : gpt aty = some u) (h0 : 0 ≤ k) (h1 : k.toNatClampNeg ≤ 1000000) (kk : gz P G cn d t (pc + 2) L (.ref h.1 :: S) (gnew h (some (.inl u)) k.toNatClampNeg k.toNatClampNeg (fun _ => defaultValue (newarray.typeOf aty))) F) : gz P G cn d t pc L (.int k :: S) h F := by
  refine gz_1 hlk (fun q => q.elim (fun z => by cases z) hx) rfl rfl ?_ kk
  simp only [gst1, gnewa, hu]
  rw [if_pos ⟨trivial, h0, h1⟩]
theorem gz_new {idx ci : Nat} (hlk : glk pc (gmC t) = some (.new idx, 3)) (hx : ¬ pc ∈ gmE t) (hc : (gmK t).2.2.2.2 idx = some (.inl ci)) (kk : gz P G cn d t (pc + 3) L (.ref h.1 :: S) (gnew h (some (.inr ci)) 0 (G.2.2.2.1 ci) (fun k => defaultValue (G.2.1 ci k))) F) : gz P G cn d t pc L S h F := by
  refine gz_1 hlk (fun q => q.elim (fun z => by cases z) hx) rfl rfl ?_ kk
  simp only [gst1, gnewo, hc]
  rw [if_pos trivial]
end GRS2
