/-! ===== rows of any length as functions; the bytes that are written; tables of codes ===== -/
def gRn (n : Nat) (ty : Nat → Nat) (q : Nat) (f : Nat → Int) (h : gH) : Prop := (∀ k, gpl rT q k = 1000 * q + 999) ∧ ∀ c, ty c = q → ∀ i, i < n → gvI (h.2.2.2.2 c i) = f i
theorem gRn.fr {N : Nat} {ty : Nat → Nat} {q : Nat} {f : Nat → Int} {h h' : gH} {l : List Nat} (g : gFr rT ty l h h') (hl : ¬ (1000 * q + 999) ∈ l) (p : gRn N ty q f h) : gRn N ty q f h' := ⟨p.1, fun c hc i hi => by
  rw [g.2.2.2.2 c i (by rw [hc, p.1]; exact hl)]
  exact p.2 c hc i hi⟩
theorem gRn.pt {N : Nat} {ty : Nat → Nat} {q b j q2 : Nat} {f : Nat → Int} {h h' : gH} (g : ∀ x n, ¬ (x = b ∧ n = j) → h'.2.2.2.2 x n = h.2.2.2.2 x n) (ht : ty b = q2) (hq : q2 ≠ q) (p : gRn N ty q f h) : gRn N ty q f h' := ⟨p.1, fun c hc i hi => by
  rw [g c i (fun w => hq (by rw [← ht, ← hc, w.1]))]
  exact p.2 c hc i hi⟩
theorem gRn.pa {N : Nat} {ty : Nat → Nat} {q b q2 : Nat} {f : Nat → Int} {h h' : gH} (g : ∀ x n, ¬ (x = b ∧ True) → h'.2.2.2.2 x n = h.2.2.2.2 x n) (ht : ty b = q2) (hq : q2 ≠ q) (p : gRn N ty q f h) : gRn N ty q f h' := ⟨p.1, fun c hc i hi => by
  rw [g c i (fun w => hq (by rw [← ht, ← hc, w.1]))]
  exact p.2 c hc i hi⟩
theorem gRn.at {N : Nat} {ty : Nat → Nat} {q c : Nat} {f : Nat → Int} {h : gH} {i z : Int} (p : gRn N ty q f h) (ht : ty c = q) (e : h.2.2.2.2 c i.toNat = .int (zi z)) (h1 : -2147483648 ≤ z) (h2 : z ≤ 2147483647) (hi : i.toNat < N) : f i.toNat = z := by
  rw [← p.2 c ht _ hi, e]
  exact zi_in (by omega)
theorem gRn.put {N : Nat} {ty : Nat → Nat} {q c : Nat} {f : Nat → Int} {h h' : gH} {i z : Int} (uq : gUq ty) (ht : ty c = q) (hq : 1 ≤ q ∧ q < 100) (g : ∀ x n, ¬ (x = c ∧ n = i.toNat) → h'.2.2.2.2 x n = h.2.2.2.2 x n) (e : h'.2.2.2.2 c i.toNat = .int (zi z)) (h1 : -2147483648 ≤ z) (h2 : z ≤ 2147483647) (p : gRn N ty q f h) : gRn N ty q (gfu f i.toNat z) h' := ⟨p.1, fun c2 hc j hj9 => by
  have e9 : c2 = c := uq c2 c (hc.trans ht.symm) (by rw [hc]; exact hq.1) (by rw [hc]; exact hq.2)
  subst e9
  by_cases hj : j = i.toNat
  · rw [hj, e, gfu_eq]
    exact zi_in (by omega)
  · rw [g c2 j (fun w => hj w.2), gfu_ne hj]
    exact p.2 c2 hc j hj9⟩
theorem gRn.mk {N : Nat} {ty : Nat → Nat} {q c : Nat} {h : gH} (uq : gUq ty) (ht : ty c = q) (hq : 1 ≤ q ∧ q < 100) (hT : ∀ k, gpl rT q k = 1000 * q + 999) : gRn N ty q (fun i => gvI (h.2.2.2.2 c i)) h := ⟨hT, fun c2 hc i hi => by
  have e9 : c2 = c := uq c2 c (hc.trans ht.symm) (by rw [hc]; exact hq.1) (by rw [hc]; exact hq.2)
  rw [e9]⟩
theorem gRn.gr {N : Nat} {nk X l : List Nat} {ty ty2 : Nat → Nat} {h h2 : gH} {q : Nat} {r : gRg} {f : Nat → Int} (g : gSg nk X l ty h ty2 h2) (hJ : gJ rT 1027 ty h) (hT : rT q = some r) (hn : ¬ q ∈ nk) (hl : ¬ (1000 * q + 999) ∈ l) (e : gRn N ty q f h) : gRn N ty2 q f h2 := ⟨e.1, fun c ht i hi => by
  have e1 := g.at (k := i) hJ (g.old ht hn) hT (by rw [e.1]; exact hl) rfl
  rw [e1]
  exact e.2 c (g.old ht hn) i hi⟩
theorem gRn.cg {N : Nat} {ty : Nat → Nat} {q : Nat} {f g : Nat → Int} {h : gH} (e : ∀ i, i < N → f i = g i) (p : gRn N ty q f h) : gRn N ty q g h := ⟨p.1, fun c hc i hi => (p.2 c hc i hi).trans (e i hi)⟩
theorem gRn.eqv {N : Nat} {ty : Nat → Nat} {q c : Nat} {f g : Nat → Int} {h : gH} (a : gRn N ty q f h) (b : gRn N ty q g h) (ht : ty c = q) : ∀ i, i < N → f i = g i := fun i hi => (a.2 c ht i hi).symm.trans (b.2 c ht i hi)
theorem gRn.jk {N : Nat} {ty : Nat → Nat} {q j : Nat} {f : Nat → Int} {h : gH} (r : gRn N ty q f h) : gRn N ty q f (gjunk j h) := ⟨r.1, fun c hc i hi => r.2 c hc i hi⟩
theorem zsh_c {a n : Int} : (0 ≤ a → 0 ≤ a / 2 ^ n.toNat ∧ a / 2 ^ n.toNat ≤ a) ∧ (a < 0 → a ≤ a / 2 ^ n.toNat ∧ a / 2 ^ n.toNat < 0) := by
  have p : (0 : Int) < 2 ^ n.toNat := Int.pow_pos (by decide)
  refine ⟨fun h => zsh_b h, fun h => ⟨?_, Int.ediv_neg_of_neg_of_pos h p⟩⟩
  refine Int.le_ediv_of_mul_le p ?_
  have h1 : (1 : Int) ≤ 2 ^ n.toNat := by omega
  have := Int.mul_le_mul_of_nonpos_left (by omega : a ≤ 0) h1
  omega
/-- a byte as it lies in a row of bytes -/
def eeS (y : Int) : Int := if y < 128 then y else y - 256
theorem eeS_b {y : Int} (h : 0 ≤ y ∧ y < 256) : -128 ≤ eeS y ∧ eeS y ≤ 127 := by unfold eeS; split <;> omega
theorem zi_8 (x : Int) : (zi x).toInt8.toInt32 = zi (eeS (x % 256)) := by
  have e1 : (zi x).toInt8 = Int8.ofInt x := Int32.toInt8_ofInt
  have e2 : (Int8.ofInt x).toInt = eeS (x % 256) := by
    rw [Int8.toInt_ofInt]
    unfold eeS
    rw [Int.bmod_def]
    show (if x % (256 : Int) < ((256 : Int) + 1) / 2 then x % (256 : Int) else x % (256 : Int) - (256 : Int)) = _
    split <;> split <;> omega
  rw [e1, ← Int32.ofInt_int8ToInt, e2]
section GEE
variable {P : Nat → Option gMt} {G : gG} {cn : Nat → Option Nat} {d : Nat} {t : gMt} {pc : Nat} {L : gL} {S : List Value} {h h0 : gH} {F : gR → gL → Prop} {T : Nat → Option gRg} {ty : Nat → Nat} {l : List Nat} {c q : Nat} {r : gRg}
theorem gy_i2bx {x : Int} (hlk : glk pc (gmC t) = some (.i2b, 1)) (hx : ¬ pc ∈ gmE t) (k : gz P G cn d t (pc + 1) L (.int (zi (eeS (x % 256))) :: S) h F) : gz P G cn d t pc L (.int (zi x) :: S) h F := by
  refine gz_0 hlk (fun q => q.elim (fun z => by cases z) hx) rfl (pc' := pc + 1) (L' := L) (S' := .int (zi (eeS (x % 256))) :: S) ?_ k
  simp only [gst0, gI1]
  rw [if_pos trivial, zi_8]
theorem gs_bastx {lo hi i z : Int} (hlk : glk pc (gmC t) = some (.bastore, 1)) (hx : ¬ pc ∈ gmE t) (hS : gSs T G.2.2.2.2 ty l h0 h) (ht : ty c = q) (hT : T q = some r) (hr : r.1 = .inl 1) (h9 : G.1[1]? = some .byte) (hm : r.2.2.1 ≤ 1000000) (hs : ∀ j, r.2.2.2 j = (0, lo, hi)) (hlo : lo ≤ -128 ∧ 127 ≤ hi) (hi0 : 0 ≤ i) (hi1 : i < h.2.2.2.1 c) (hl : ∀ j, gpl T q j ∈ l) (hz : -128 ≤ z ∧ z ≤ 127)
    (kk : ∀ h' : gH, gSs T G.2.2.2.2 ty l h0 h' → h'.2.2.2.2 c i.toNat = .int (zi z) → (∀ b j, ¬ (b = c ∧ j = i.toNat) → h'.2.2.2.2 b j = h.2.2.2.2 b j) → gz P G cn d t (pc + 1) L S h' F) : gz P G cn d t pc L (.int (zi z) :: .int (zi i) :: .ref c :: S) h F := by
  obtain ⟨x1, x2, x3, x4, x5, -⟩ := hS.1 c r (by rw [ht]; exact hT)
  refine gz_bast hlk hx x1 x2 (by rw [x3, hr]) h9 (zi_gin hi0 hi1 (by omega)) ?_
  have e8 : eeS (z % 256) = z := by unfold eeS; split <;> omega
  rw [zi_nat hi0 (by omega), zi_8, e8]
  exact kk _ (hS.put ht hT (k := i.toNat) (by rw [hs]; exact ⟨z, rfl, by show lo ≤ z; omega, by show z ≤ hi; omega⟩) (hl _)) gput_eq (fun b j hn => gput_ne hn)
end GEE
section GGS
variable {P : Nat → Option gMt} {cn : Nat → Option Nat} {d : Nat} {t : gMt} {pc pc' : Nat} {L L' : gL} {S S' : List Value} {h0 h : gH} {F : gR → gL → Prop} {I : Instr} {len : Nat}
variable {ty : Nat → Nat} {l : List Nat} {c k q ci idx a : Nat} {r : gRg}
/-- a stretch of a row is copied into another row -/
theorem gs_copyx {u qa qb : Nat} {a b : Nat} {ra rb : gRg} {lo hi lo2 hi2 sp dp n : Int} {T9 : FieldType} (hlk : glk pc (gmC t) = some (.invokestatic idx, 3)) (hx : ¬ pc ∈ gmE t) (hd : ¬ d = 0) (hT : gmT t idx = some (3, 0)) (hS : gSs rT 1027 ty l h0 h) (hta : ty a = qa) (hTa : rT qa = some ra) (hra : ra.1 = .inl u) (htb : ty b = qb) (hTb : rT qb = some rb) (hrb : rb.1 = .inl u) (hu : u = 0 ∧ T9 = .int ∨ u = 1 ∧ T9 = .byte) (hma : ra.2.2.1 ≤ 1000000) (hmb : rb.2.2.1 ≤ 1000000) (hsa : ∀ j, ra.2.2.2 j = (0, lo, hi)) (hsb : ∀ j, rb.2.2.2 j = (0, lo2, hi2)) (hw : lo ≤ lo2 ∧ hi2 ≤ hi) (hby : u = 1 → -128 ≤ lo2 ∧ hi2 ≤ 127) (hsp : 0 ≤ sp) (hdp : 0 ≤ dp) (hn : 0 ≤ n) (hsb2 : sp + n ≤ (h.2.2.2.1 b : Int)) (hda2 : dp + n ≤ (h.2.2.2.1 a : Int)) (hsm : gsum S ≤ 8) (hl : ∀ j, gpl rT qa j ∈ l)
    (kk : ∀ h' : gH, gSs rT 1027 ty l h0 h' → (∀ c j, ¬ c = a → h'.2.2.2.2 c j = h.2.2.2.2 c j) → (∀ j : Nat, (j : Int) < n → h'.2.2.2.2 a (dp.toNat + j) = h.2.2.2.2 b (sp.toNat + j)) → gz P gGG cn d t (pc + 3) L S h' F) : gz P gGG cn d t pc L (.int (zi n) :: .int (zi dp) :: .ref a :: .int (zi sp) :: .ref b :: S) h F := by
  obtain ⟨a1, a2, a3, a4, a5, a6⟩ := hS.1 a ra (by rw [hta]; exact hTa)
  obtain ⟨b1, b2, b3, b4, b5, b6⟩ := hS.1 b rb (by rw [htb]; exact hTb)
  have es : (zi sp).toNatClampNeg = sp.toNat := zi_nat hsp (by omega)
  have ed : (zi dp).toNatClampNeg = dp.toNat := zi_nat hdp (by omega)
  have en : (zi n).toNatClampNeg = n.toNat := zi_nat hn (by omega)
  have hval : ∀ j, j < h.2.2.2.1 b → ∃ z : Int, h.2.2.2.2 b j = .int (zi z) ∧ lo2 ≤ z ∧ z ≤ hi2 := fun j hj => by
    have x := b6 j (by unfold gIn; rw [hrb]; exact hj)
    rw [hsb] at x
    exact x
  refine gz_copy hlk hx hd hT (S' := S) (h' := (h.1, h.2.1, h.2.2.1, h.2.2.2.1, gcpM h.2.2.2.2 a b sp.toNat dp.toNat n.toNat)) ?_ (kk _ ⟨fun c r hc => ?_, hS.2.1, hS.2.2.1, hS.2.2.2.1, hS.2.2.2.2.1, fun c k hk => ?_⟩ (fun c j hc => ?_) (fun j hj => ?_))
  · have hG : gGG.1[u]? = some T9 := by
      rcases hu with ⟨rfl, rfl⟩ | ⟨rfl, rfl⟩ <;> rfl
    unfold gcopy
    simp only [a3, b3, hra, hrb, hG]
    rw [es, ed, en, if_pos]
    refine ⟨trivial, by omega, a1, b1, a2, b2, zi_nn hsp (by omega), zi_nn hdp (by omega), zi_nn hn (by omega), by omega, by omega, hsm, ?_⟩
    rw [List.all_eq_true]
    intro i hi
    rw [List.mem_range] at hi
    obtain ⟨z, e, z1, z2⟩ := hval (sp.toNat + i) (by omega)
    rw [e]
    rcases hu with ⟨rfl, rfl⟩ | ⟨rfl, rfl⟩
    · rfl
    · have := hby rfl
      exact gprim_b (by omega) (by omega)
  · obtain ⟨x1, x2, x3, x4, x5, x6⟩ := hS.1 c r hc
    refine ⟨x1, x2, x3, x4, x5, fun k hk => ?_⟩
    have x7 := x6 k hk
    show gOs _ ty (gcpM h.2.2.2.2 a b sp.toNat dp.toNat n.toNat c k)
    unfold gcpM
    by_cases hca : c = a
    · rw [if_pos hca]
      split
      · rename_i hj
        obtain ⟨z, e, z1, z2⟩ := hval (sp.toNat + (k - dp.toNat)) (by omega)
        have er : r = ra := by
          rw [hca, hta, hTa] at hc
          exact (Option.some.inj hc).symm
        rw [e, er, hsa]
        exact ⟨z, rfl, by show lo ≤ z; omega, by show z ≤ hi; omega⟩
      · rw [← hca]
        exact x7
    · rw [if_neg hca]
      exact x7
  · show gcpM h.2.2.2.2 a b sp.toNat dp.toNat n.toNat c k = _
    unfold gcpM
    rw [if_neg (fun hca => hk (by rw [hca, hta]; exact hl _))]
    exact hS.2.2.2.2.2 c k hk
  · show gcpM h.2.2.2.2 a b sp.toNat dp.toNat n.toNat c j = _
    unfold gcpM
    rw [if_neg hc]
  · show gcpM h.2.2.2.2 a b sp.toNat dp.toNat n.toNat a (dp.toNat + j) = _
    unfold gcpM
    rw [if_pos rfl, if_pos (by omega), (by omega : sp.toNat + (dp.toNat + j - dp.toNat) = sp.toNat + j)]
end GGS
/-- the bytes written so far -/
def gSW (ty : Nat → Nat) (bt : Nat) (s : gWt) (h : gH) : Prop := ty bt = 114 ∧ 0 ≤ s.1 ∧ ∀ j : Nat, (j : Int) < s.1 → (0 ≤ s.2.2.2 j ∧ s.2.2.2 j < 256) ∧ h.2.2.2.2 bt j = .int (zi (eeS (s.2.2.2 j)))
theorem gSW.fr {ty : Nat → Nat} {bt : Nat} {s : gWt} {h h' : gH} {l : List Nat} (g : gFr rT ty l h h') (hl : ∀ x ∈ ([114999] : List Nat), ¬ x ∈ l) (p : gSW ty bt s h) : gSW ty bt s h' := ⟨p.1, p.2.1, fun j hj => ⟨(p.2.2 j hj).1, (g.2.2.2.2 bt j (by rw [p.1]; exact hl _ (List.mem_singleton.mpr rfl))).trans (p.2.2 j hj).2⟩⟩
theorem gSW.pt {ty : Nat → Nat} {bt c k q2 : Nat} {s : gWt} {h h' : gH} (f : ∀ x j, ¬ (x = c ∧ j = k) → h'.2.2.2.2 x j = h.2.2.2.2 x j) (ht : ty c = q2) (hq : ∀ x ∈ ([114] : List Nat), q2 ≠ x) (p : gSW ty bt s h) : gSW ty bt s h' := ⟨p.1, p.2.1, fun j hj => ⟨(p.2.2 j hj).1, (f bt j (fun w => hq 114 (List.mem_singleton.mpr rfl) (by rw [← ht, ← p.1, w.1]))).trans (p.2.2 j hj).2⟩⟩
theorem gSW.gr {nk X l : List Nat} {ty ty2 : Nat → Nat} {bt : Nat} {s : gWt} {h h2 : gH} (g : gSg nk X l ty h ty2 h2) (hJ : gJ rT 1027 ty h) (hl : ∀ x ∈ ([114999] : List Nat), ¬ x ∈ l) (p : gSW ty bt s h) : gSW ty2 bt s h2 := ⟨g.typ hJ p.1 rfl, p.2.1, fun j hj => ⟨(p.2.2 j hj).1, g.at hJ p.1 rfl (hl _ (List.mem_singleton.mpr rfl)) (p.2.2 j hj).2⟩⟩
theorem gSW.put {ty : Nat → Nat} {bt : Nat} {s : gWt} {h h' : gH} {i v : Int} (f : ∀ x j, ¬ (x = bt ∧ j = i.toNat) → h'.2.2.2.2 x j = h.2.2.2.2 x j) (e : h'.2.2.2.2 bt i.toNat = .int (zi (eeS (v % 256)))) (hi : i = s.1) (p : gSW ty bt s h) : gSW ty bt (eeB s v) h' := by
  refine ⟨p.1, by have := p.2.1; show 0 ≤ s.1 + 1; omega, fun j hj => ?_⟩
  have hj : (j : Int) < s.1 + 1 := hj
  show (0 ≤ gfu s.2.2.2 s.1.toNat (v % 256) j ∧ gfu s.2.2.2 s.1.toNat (v % 256) j < 256) ∧ h'.2.2.2.2 bt j = .int (zi (eeS (gfu s.2.2.2 s.1.toNat (v % 256) j)))
  by_cases c : j = s.1.toNat
  · rw [c, gfu_eq]
    rw [hi] at e
    exact ⟨by omega, e⟩
  · rw [gfu_ne c, f bt j (fun w => c (by rw [w.2, hi]))]
    exact p.2.2 j (by omega)
theorem gSW.copy {ty : Nat → Nat} {bt b2 : Nat} {s : gWt} {h h' : gH} (ht : ty b2 = 114) (f : ∀ j : Nat, (j : Int) < s.1 → h'.2.2.2.2 b2 j = h.2.2.2.2 bt j) (p : gSW ty bt s h) : gSW ty b2 s h' := ⟨ht, p.2.1, fun j hj => ⟨(p.2.2 j hj).1, (f j hj).trans (p.2.2 j hj).2⟩⟩
theorem gSW.eq {ty : Nat → Nat} {bt : Nat} {s s2 : gWt} {h : gH} (e1 : s.1 = s2.1) (e2 : s.2.2.2 = s2.2.2.2) (p : gSW ty bt s h) : gSW ty bt s2 h := by
  refine ⟨p.1, by rw [← e1]; exact p.2.1, fun j hj => ?_⟩
  rw [← e2]
  exact p.2.2 j (by rw [e1]; exact hj)
/-- tables of codes, where they are wanted -/
def gTab (P : Prop) (ty : Nat → Nat) (qc ql : Nat) (ec : Nat → Int × Int) (h : gH) : Prop := P → (∀ s : Nat, s < 256 → 0 ≤ (ec s).2 ∧ (ec s).2 ≤ 16) ∧ (∀ c, ty c = ql → ∀ s, s < 256 → gvI (h.2.2.2.2 c s) = (ec s).2) ∧ (∀ c, ty c = qc → ∀ s, s < 256 → 0 < (ec s).2 → gvI (h.2.2.2.2 c s) = (ec s).1)
theorem gTab.fr {P : Prop} {ty : Nat → Nat} {qc ql : Nat} {ec : Nat → Int × Int} {h h' : gH} {l : List Nat} (g : gFr rT ty l h h') (p1 : ∀ k, gpl rT qc k = 1000 * qc + 999) (p2 : ∀ k, gpl rT ql k = 1000 * ql + 999) (h1 : ¬ (1000 * qc + 999) ∈ l) (h2 : ¬ (1000 * ql + 999) ∈ l) (p : gTab P ty qc ql ec h) : gTab P ty qc ql ec h' := fun w => ⟨(p w).1, fun c hc s hs => by
  rw [g.2.2.2.2 c s (by rw [hc, p2]; exact h2)]
  exact (p w).2.1 c hc s hs, fun c hc s hs h0 => by
  rw [g.2.2.2.2 c s (by rw [hc, p1]; exact h1)]
  exact (p w).2.2 c hc s hs h0⟩
theorem gTab.pt {P : Prop} {ty : Nat → Nat} {qc ql b j q2 : Nat} {ec : Nat → Int × Int} {h h' : gH} (g : ∀ x n, ¬ (x = b ∧ n = j) → h'.2.2.2.2 x n = h.2.2.2.2 x n) (ht : ty b = q2) (h1 : q2 ≠ qc) (h2 : q2 ≠ ql) (p : gTab P ty qc ql ec h) : gTab P ty qc ql ec h' := fun w => ⟨(p w).1, fun c hc s hs => by
  rw [g c s (fun w => h2 (by rw [← ht, ← hc, w.1]))]
  exact (p w).2.1 c hc s hs, fun c hc s hs h0 => by
  rw [g c s (fun w => h1 (by rw [← ht, ← hc, w.1]))]
  exact (p w).2.2 c hc s hs h0⟩
theorem gTab.gr {P : Prop} {nk X l : List Nat} {ty ty2 : Nat → Nat} {qc ql : Nat} {rc rl : gRg} {ec : Nat → Int × Int} {h h2 : gH} (g : gSg nk X l ty h ty2 h2) (hJ : gJ rT 1027 ty h) (c1 : rT qc = some rc) (c2 : rT ql = some rl) (p1 : ∀ k, gpl rT qc k = 1000 * qc + 999) (p2 : ∀ k, gpl rT ql k = 1000 * ql + 999) (n1 : ¬ qc ∈ nk) (n2 : ¬ ql ∈ nk) (h1 : ¬ (1000 * qc + 999) ∈ l) (h3 : ¬ (1000 * ql + 999) ∈ l) (p : gTab P ty qc ql ec h) : gTab P ty2 qc ql ec h2 := fun w => ⟨(p w).1, fun c hc s hs => by
  have e1 := g.at (k := s) hJ (g.old hc n2) c2 (by rw [p2]; exact h3) rfl
  rw [e1]
  exact (p w).2.1 c (g.old hc n2) s hs, fun c hc s hs h0 => by
  have e1 := g.at (k := s) hJ (g.old hc n1) c1 (by rw [p1]; exact h1) rfl
  rw [e1]
  exact (p w).2.2 c (g.old hc n1) s hs h0⟩
theorem gTab.imp {P Q : Prop} {ty : Nat → Nat} {qc ql : Nat} {ec : Nat → Int × Int} {h : gH} (i : Q → P) (p : gTab P ty qc ql ec h) : gTab Q ty qc ql ec h := fun w => p (i w)
/-- what is put for a symbol -/
theorem gTab.put {P : Prop} {ty : Nat → Nat} {qc ql c1 c2 : Nat} {ec : Nat → Int × Int} {h : gH} {s zc zl : Int} (p : gTab P ty qc ql ec h) (w : P) (hs : 0 ≤ s ∧ s < 256) (t1 : ty c1 = qc) (t2 : ty c2 = ql) (e1 : h.2.2.2.2 c1 s.toNat = .int (zi zc)) (e2 : h.2.2.2.2 c2 s.toNat = .int (zi zl)) (r1 : -2147483648 ≤ zc ∧ zc ≤ 2147483647) (r2 : -2147483648 ≤ zl ∧ zl ≤ 2147483647) (g : gWt) : zl = (ec s.toNat).2 ∧ (0 ≤ zl ∧ zl ≤ 16) ∧ eeN zc zl.toNat g = eeN (ec s.toNat).1 (ec s.toNat).2.toNat g := by
  obtain ⟨a, b, c⟩ := p w
  have x2 := b c2 t2 s.toNat (by omega)
  rw [e2] at x2
  have x3 : (zi zl).toInt = (ec s.toNat).2 := x2
  rw [zi_in (by omega)] at x3
  have x4 := a s.toNat (by omega)
  refine ⟨x3, by omega, ?_⟩
  by_cases h0 : 0 < (ec s.toNat).2
  · have x5 := c c1 t1 s.toNat (by omega) h0
    rw [e1] at x5
    have x6 : (zi zc).toInt = (ec s.toNat).1 := x5
    rw [zi_in (by omega)] at x6
    rw [x3, x6]
  · have z1 : zl.toNat = 0 := by omega
    have z2 : (ec s.toNat).2.toNat = 0 := by omega
    rw [z1, z2]
    rfl
/-- the bits that wait, as a number: the field's last n bits -/
def gJvp : List Nat := [71013]
def gJv (ty : Nat → Nat) (x : Nat) (w : Int) (n : Nat) (h : gH) : Prop := ty x = 71 ∧ n ≤ 64 ∧ ∃ q : Int, h.2.2.2.2 x 13 = .long (zl (w + q * 2 ^ n))
theorem gJv.fr {ty : Nat → Nat} {x n : Nat} {w : Int} {h h' : gH} {l : List Nat} (g : gFr rT ty l h h') (hl : ∀ y ∈ gJvp, ¬ y ∈ l) (p : gJv ty x w n h) : gJv ty x w n h' := by
  obtain ⟨a, b, q, e⟩ := p
  exact ⟨a, b, q, (g.2.2.2.2 x 13 (by rw [a]; exact hl _ (List.mem_singleton.mpr rfl))).trans e⟩
theorem gJv.pa {ty : Nat → Nat} {x n c q2 : Nat} {w : Int} {h h' : gH} {Q : Nat → Prop} (f : ∀ x j, ¬ (x = c ∧ Q j) → h'.2.2.2.2 x j = h.2.2.2.2 x j) (_ : h'.2.2.2.1 = h.2.2.2.1) (ht : ty c = q2) (hq : ∀ j, ¬ gpl rT q2 j ∈ gJvp) (p : gJv ty x w n h) : gJv ty x w n h' := by
  obtain ⟨a, b, q, e⟩ := p
  exact ⟨a, b, q, (f x 13 (fun w9 => hq 13 (by rw [← ht, ← w9.1, a]; exact List.mem_singleton.mpr rfl))).trans e⟩
theorem gJv.pk {ty : Nat → Nat} {x n c k q2 : Nat} {w : Int} {h h' : gH} (f : ∀ x j, ¬ (x = c ∧ j = k) → h'.2.2.2.2 x j = h.2.2.2.2 x j) (_ : h'.2.2.2.1 = h.2.2.2.1) (ht : ty c = q2) (hq : ¬ gpl rT q2 k ∈ gJvp) (p : gJv ty x w n h) : gJv ty x w n h' := by
  obtain ⟨a, b, q, e⟩ := p
  exact ⟨a, b, q, (f x 13 (fun w9 => hq (by rw [← ht, ← w9.1, ← w9.2, a]; exact List.mem_singleton.mpr rfl))).trans e⟩
theorem gJv.gr {nk X l : List Nat} {ty ty2 : Nat → Nat} {x n : Nat} {w : Int} {h h2 : gH} (g : gSg nk X l ty h ty2 h2) (hJ : gJ rT 1027 ty h) (hl : ∀ y ∈ gJvp, ¬ y ∈ l) (p : gJv ty x w n h) : gJv ty2 x w n h2 := by
  obtain ⟨a, b, q, e⟩ := p
  exact ⟨g.typ hJ a rfl, b, q, g.at hJ a rfl (hl _ (List.mem_singleton.mpr rfl)) e⟩
theorem gJv.start {ty : Nat → Nat} {x : Nat} {w : Int} {h : gH} (hJ : gJ rT 1027 ty h) (ht : ty x = 71) : gJv ty x w 0 h := by
  obtain ⟨-, -, -, -, -, x6⟩ := hJ x rg71 (by rw [ht]; rfl)
  obtain ⟨z, e, -, -⟩ := x6 13 trivial
  exact ⟨ht, by omega, z - w, by rw [e, Int.pow_zero, Int.mul_one, (by omega : w + (z - w) = z)]⟩
theorem gJv.low {ty : Nat → Nat} {x n : Nat} {w : Int} {h : gH} (p : gJv ty x w n h) : gJv ty x w 0 h := by
  obtain ⟨a, b, q, e⟩ := p
  exact ⟨a, by omega, q * 2 ^ n, by rw [e, Int.pow_zero, Int.mul_one]⟩
theorem zl_mod {z w : Int} (e : zl z = zl w) : ∃ q : Int, z = w + q * 2 ^ 64 := by
  have e2 : z.bmod (2 ^ 64) = w.bmod (2 ^ 64) := by
    have := congrArg Int64.toInt e
    rw [show zl z = Int64.ofInt z from rfl, show zl w = Int64.ofInt w from rfl, Int64.toInt_ofInt, Int64.toInt_ofInt] at this
    exact this
  have e3 : z % (2 ^ 64 : Int) = w % (2 ^ 64 : Int) := by
    have a := Int.bmod_emod (x := z) (m := 2 ^ 64)
    have b := Int.bmod_emod (x := w) (m := 2 ^ 64)
    rw [e2] at a
    exact a.symm.trans b
  refine ⟨(z - w) / 2 ^ 64, ?_⟩
  have h1 : (2 : Int) ^ 64 = 18446744073709551616 := by decide
  rw [h1] at e3 ⊢
  omega
theorem gJv.bit {ty : Nat → Nat} {x n : Nat} {w z i : Int} {h : gH} (p : gJv ty x w n h) (e : h.2.2.2.2 x 13 = .long (zl z)) (h0 : 0 ≤ i) (h1 : i < n) : z / 2 ^ i.toNat % 2 = w / 2 ^ i.toNat % 2 := by
  obtain ⟨-, b, q, e2⟩ := p
  have e1 : zl z = zl (w + q * 2 ^ n) := Value.long.inj (e.symm.trans e2)
  obtain ⟨k, hk⟩ := zl_mod e1
  rw [e_bit (n := 64) (by omega) hk]
  exact e_bit (n := n) (by omega) rfl
theorem gJv.put {ty : Nat → Nat} {x n : Nat} {w z z2 b : Int} {h h' : gH} (p : gJv ty x w n h) (hn : n < 64) (e : h.2.2.2.2 x 13 = .long (zl z)) (ez : zl (2 * z + b) = zl z2) (e2 : h'.2.2.2.2 x 13 = .long (zl z2)) : gJv ty x (2 * w + b) (n + 1) h' := by
  obtain ⟨a, _, q, e3⟩ := p
  have e1 : zl z = zl (w + q * 2 ^ n) := Value.long.inj (e.symm.trans e3)
  refine ⟨a, by omega, q, e2.trans ?_⟩
  have e4 : 2 * w + b + q * 2 ^ (n + 1) = 2 * (w + q * 2 ^ n) + b := by
    rw [Int.pow_succ, Int.mul_add, ← Int.mul_assoc, Int.mul_comm (q * 2 ^ n) 2]
    omega
  rw [← ez, e4, ← zl_add, ← zl_mul, e1, zl_mul, zl_add]
section GLB
variable {P : Nat → Option gMt} {G : gG} {cn : Nat → Option Nat} {d : Nat} {t : gMt} {pc : Nat} {L : gL} {S : List Value} {h : gH} {F : gR → gL → Prop}
theorem zl_tn (x : Int) : (zl x).toBitVec.toNat = (x % 18446744073709551616).toNat := by
  show (BitVec.ofInt 64 x).toNat = _
  rw [BitVec.toNat_ofInt]
  rfl
theorem zl_a1 (a : Int) : zl a &&& zl 1 = zl (a % 2) := by
  apply Int64.toBitVec_inj.mp
  apply BitVec.eq_of_toNat_eq
  rw [Int64.toBitVec_and, BitVec.toNat_and, zl_tn, zl_tn, zl_tn, (by decide : ((1 : Int) % 18446744073709551616).toNat = 1), Nat.and_one_is_mod]
  omega
theorem gy_land1 {x : Int} (hlk : glk pc (gmC t) = some (.land, 1)) (hx : ¬ pc ∈ gmE t) (k : gz P G cn d t (pc + 1) L (.long (zl (x % 2)) :: S) h F) : gz P G cn d t pc L (.long (zl 1) :: .long (zl x) :: S) h F := by
  refine gz_0 hlk (fun q => q.elim (fun z => by cases z) hx) rfl ?_ k
  simp only [gst0, gLL]
  rw [if_pos trivial, zl_a1]
end GLB
/-! rows of longs; the rows that never change, exactly -/
def gvL : Value → Int
  | .long x => x.toInt
  | _ => 0
def gRl (n : Nat) (ty : Nat → Nat) (q : Nat) (f : Nat → Int) (h : gH) : Prop := (∀ k, gpl rT q k = 1000 * q + 999) ∧ ∀ c, ty c = q → ∀ i, i < n → gvL (h.2.2.2.2 c i) = f i
theorem gRl.fr {N : Nat} {ty : Nat → Nat} {q : Nat} {f : Nat → Int} {h h' : gH} {l : List Nat} (g : gFr rT ty l h h') (hl : ¬ (1000 * q + 999) ∈ l) (p : gRl N ty q f h) : gRl N ty q f h' := ⟨p.1, fun c hc i hi => by
  rw [g.2.2.2.2 c i (by rw [hc, p.1]; exact hl)]
  exact p.2 c hc i hi⟩
theorem gRl.pt {N : Nat} {ty : Nat → Nat} {q b j q2 : Nat} {f : Nat → Int} {h h' : gH} (g : ∀ x n, ¬ (x = b ∧ n = j) → h'.2.2.2.2 x n = h.2.2.2.2 x n) (ht : ty b = q2) (hq : q2 ≠ q) (p : gRl N ty q f h) : gRl N ty q f h' := ⟨p.1, fun c hc i hi => by
  rw [g c i (fun w => hq (by rw [← ht, ← hc, w.1]))]
  exact p.2 c hc i hi⟩
theorem gRl.at {N : Nat} {ty : Nat → Nat} {q c : Nat} {f : Nat → Int} {h : gH} {i z : Int} (p : gRl N ty q f h) (ht : ty c = q) (e : h.2.2.2.2 c i.toNat = .long (zl z)) (h1 : -9223372036854775808 ≤ z) (h2 : z ≤ 9223372036854775807) (hi : i.toNat < N) : f i.toNat = z := by
  rw [← p.2 c ht _ hi, e]
  exact zl_in (by omega)
theorem gRl.ext {ty : Nat → Nat} {q c : Nat} {t : Nat → Int} {h h' : gH} {k z : Int} (uq : gUq ty) (ht : ty c = q) (hq : 1 ≤ q ∧ q < 100) (f : ∀ x n, ¬ (x = c ∧ n = k.toNat) → h'.2.2.2.2 x n = h.2.2.2.2 x n) (e : h'.2.2.2.2 c k.toNat = .long (zl z)) (h1 : -9223372036854775808 ≤ z) (h2 : z ≤ 9223372036854775807) (h0 : 0 ≤ k) (ez : z = t k.toNat) (p : gRl k.toNat ty q t h) : gRl (k + 1).toNat ty q t h' := ⟨p.1, fun c2 hc j hj9 => by
  have e9 : c2 = c := uq c2 c (hc.trans ht.symm) (by rw [hc]; exact hq.1) (by rw [hc]; exact hq.2)
  subst e9
  by_cases hj : j = k.toNat
  · rw [hj, e, ← ez]
    exact zl_in (by omega)
  · rw [f c2 j (fun w => hj w.2)]
    exact p.2 c2 hc j (by omega)⟩
theorem gRl.nil {ty : Nat → Nat} {q : Nat} {t : Nat → Int} {h : gH} (hp : ∀ k, gpl rT q k = 1000 * q + 999) : gRl (0 : Int).toNat ty q t h := ⟨hp, fun c _ i hi => absurd hi (by omega)⟩
def gStx (ty : Nat → Nat) (h : gH) : Prop := gSta ty h ∧ (∀ i : Nat, i < 64 → h.2.2.2.2 0 i = .int (zi (eZz (i : Int)))) ∧ ∀ i : Nat, i < 32 → h.2.2.2.2 1 i = .int (zi (eWv (i : Int)))
theorem gStx.fr {ty : Nat → Nat} {h h' : gH} {l : List Nat} (g : gFr rT ty l h h') (hl : ∀ x ∈ l, 1000 ≤ x) (p : gStx ty h) : gStx ty h' := by
  obtain ⟨s, a, b⟩ := p
  refine ⟨s.fr g hl, fun i hi => ?_, fun i hi => ?_⟩
  · rw [g.2.2.2.2 0 i (fun w => by have := hl _ w; rw [s.1] at this; have e : gpl rT 0 i = 1000 * 0 + i := rfl; omega)]
    exact a i hi
  · rw [g.2.2.2.2 1 i (fun w => by have := hl _ w; rw [s.2.1] at this; have e : gpl rT 0 i = 1000 * 0 + i := rfl; omega)]
    exact b i hi
theorem gStx.gr {nk X l : List Nat} {ty ty2 : Nat → Nat} {h h2 : gH} (g : gSg nk X l ty h ty2 h2) (hl : ∀ x ∈ l, 1000 ≤ x) (hX : ∀ x ∈ X, 2 ≤ x) (p : gStx ty h) : gStx ty2 h2 := by
  obtain ⟨s, a, b⟩ := p
  have x0 : ¬ (0 : Nat) ∈ X := fun w => by have := hX _ w; omega
  have x1 : ¬ (1 : Nat) ∈ X := fun w => by have := hX _ w; omega
  have s3 := s.2.2.1
  obtain ⟨a1, a2, a3⟩ := g.2.2.2.2 0 (by omega)
  obtain ⟨b1, b2, b3⟩ := g.2.2.2.2 1 (by omega)
  refine ⟨s.gr g hl hX, fun i hi => ?_, fun i hi => ?_⟩
  · rw [a3 x0 i (fun w => by have := hl _ w; rw [s.1] at this; have e : gpl rT 0 i = 1000 * 0 + i := rfl; omega)]
    exact a i hi
  · rw [b3 x1 i (fun w => by have := hl _ w; rw [s.2.1] at this; have e : gpl rT 0 i = 1000 * 0 + i := rfl; omega)]
    exact b i hi
theorem gStx.pt {n0 c q2 : Nat} {ty : Nat → Nat} {l : List Nat} {hb h h2 : gH} {Q : Nat → Prop} (a : gSs rT n0 ty l hb h) (b : gSs rT n0 ty l hb h2) (f : ∀ x j, ¬ (x = c ∧ Q j) → h2.2.2.2.2 x j = h.2.2.2.2 x j) (ht : ty c = q2) (hq : q2 ≠ 0) (p : gStx ty h) : gStx ty h2 := by
  obtain ⟨⟨p1, p2, p3, p4, p5, p6, p7, p8, p9⟩, x, y⟩ := p
  have e1 : h2.1 = h.1 := b.2.1.trans a.2.1.symm
  have e3 : h2.2.2.1 = h.2.2.1 := b.2.2.2.1.trans a.2.2.2.1.symm
  have e4 : h2.2.2.2.1 = h.2.2.2.1 := b.2.2.2.2.1.trans a.2.2.2.2.1.symm
  have f0 : ∀ j, h2.2.2.2.2 0 j = h.2.2.2.2 0 j := fun j => f 0 j (fun w => hq (by rw [← ht, ← w.1]; exact p1))
  have f1 : ∀ j, h2.2.2.2.2 1 j = h.2.2.2.2 1 j := fun j => f 1 j (fun w => hq (by rw [← ht, ← w.1]; exact p2))
  refine ⟨⟨p1, p2, by omega, by rw [e3]; exact p4, by rw [e4]; exact p5, by rw [e3]; exact p6, by rw [e4]; exact p7, fun i hi => by rw [f0]; exact p8 i hi, fun i hi => by rw [f1]; exact p9 i hi⟩, fun i hi => by rw [f0]; exact x i hi, fun i hi => by rw [f1]; exact y i hi⟩
section GSX
variable {P : Nat → Option gMt} {G : gG} {cn : Nat → Option Nat} {d : Nat} {t : gMt} {pc : Nat} {L : gL} {S : List Value} {h : gH} {F : gR → gL → Prop} {ty : Nat → Nat}
theorem gs_st0x {i : Int} (hlk : glk pc (gmC t) = some (.iaload, 1)) (hx : ¬ pc ∈ gmE t) (h9 : G.1[0]? = some .int) (p : gStx ty h) (hi0 : 0 ≤ i) (hi1 : i < 64) (kk : gz P G cn d t (pc + 1) L (.int (zi (eZz i)) :: S) h F) : gz P G cn d t pc L (.int (zi i) :: .ref 0 :: S) h F := by
  obtain ⟨⟨p1, p2, p3, p4, p5, p6, p7, p8, p9⟩, a, b⟩ := p
  have e := a i.toNat (by omega)
  rw [(by omega : ((i.toNat : Nat) : Int) = i)] at e
  exact gy_iald hlk hx (by omega) p4 h9 (by omega) hi0 (by omega) e kk
theorem gs_st1x {i : Int} (hlk : glk pc (gmC t) = some (.iaload, 1)) (hx : ¬ pc ∈ gmE t) (h9 : G.1[0]? = some .int) (p : gStx ty h) (hi0 : 0 ≤ i) (hi1 : i < 32) (kk : gz P G cn d t (pc + 1) L (.int (zi (eWv i)) :: S) h F) : gz P G cn d t pc L (.int (zi i) :: .ref 1 :: S) h F := by
  obtain ⟨⟨p1, p2, p3, p4, p5, p6, p7, p8, p9⟩, a, b⟩ := p
  have e := b i.toNat (by omega)
  rw [(by omega : ((i.toNat : Nat) : Int) = i)] at e
  exact gy_iald hlk hx (by omega) p6 h9 (by omega) hi0 (by omega) e kk
end GSX
