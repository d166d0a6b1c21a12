/-! ===== the state that both hold: tables, canvas, scans that are told, bytes that are written ===== -/
def gEq (n : Nat) (f g : Nat → Int) : Prop := ∀ j, j < n → f j = g j
theorem gEq.sy {n : Nat} {f g : Nat → Int} (e : gEq n f g) : gEq n g f := fun j hj => (e j hj).symm
theorem gfu_self {f : Nat → Int} {n : Nat} {w : Int} (e : f n = w) : gfu f n w = f := by
  funext j
  unfold gfu
  split
  · rename_i h
    rw [h, e]
  · rfl
abbrev gSS := ((Nat → Int) × (Nat → Int) × (Nat → Int) × (Nat → Int) × (Nat → Int) × (Nat → Int) × (Nat → Int)) × gWt
theorem gEq.fu {N n : Nat} {f g : Nat → Int} {v : Int} (e : gEq N f g) : gEq N (gfu f n v) (gfu g n v) := by
  intro j hj
  unfold gfu
  split
  · rfl
  · exact e j hj
theorem gRow.Rn {N : Nat} {ty : Nat → Nat} {q : Nat} {f g : Nat → Int} {h : gH} (hN : N ≤ 514) (e : gEq N f g) (r : gRow ty q f h) : gRn N ty q g h := ⟨r.1, fun c hc i hi => (r.2 c hc i (by omega)).trans (e i hi)⟩
theorem gRow.eqn {N : Nat} {ty : Nat → Nat} {q c : Nat} {f g : Nat → Int} {h : gH} (hN : N ≤ 514) (a : gRow ty q f h) (b : gRn N ty q g h) (ht : ty c = q) : gEq N f g := fun j hj => (a.2 c ht j (by omega)).symm.trans (b.2 c ht j hj)
/-- a place of a table, a point of the canvas -/
def gVt (f : Nat → Int) (a b v : Int) : Nat → Int := if (0 ≤ a ∧ a ≤ 3 ∧ 0 ≤ b ∧ b ≤ 63) ∧ 1 ≤ v ∧ v ≤ 255 then gfu f (a * 64 + b).toNat v else f
def gVp (f : Nat → Int) (a b v : Int) : Nat → Int := if (0 ≤ a ∧ a ≤ 31 ∧ 0 ≤ b ∧ b ≤ 31) ∧ 0 ≤ v ∧ v ≤ 255 then gfu f (b * 32 + a).toNat v else f
theorem gVt.n {N : Nat} {ty : Nat → Nat} {q : Nat} {f : Nat → Int} {a b v : Int} {h : gH} (c : ¬ ((0 ≤ a ∧ a ≤ 3 ∧ 0 ≤ b ∧ b ≤ 63) ∧ 1 ≤ v ∧ v ≤ 255)) (r : gRn N ty q f h) : gRn N ty q (gVt f a b v) h := by
  unfold gVt
  rw [if_neg c]
  exact r
theorem gVt.y {N : Nat} {ty : Nat → Nat} {q : Nat} {f : Nat → Int} {a b v i : Int} {h : gH} (c : (0 ≤ a ∧ a ≤ 3 ∧ 0 ≤ b ∧ b ≤ 63) ∧ 1 ≤ v ∧ v ≤ 255) (e : i = a * 64 + b) (r : gRn N ty q (gfu f i.toNat v) h) : gRn N ty q (gVt f a b v) h := by
  unfold gVt
  rw [if_pos c, ← e]
  exact r
theorem gVt.s {N : Nat} {ty : Nat → Nat} {q n : Nat} {f : Nat → Int} {a b v w : Int} {h : gH} (c : ¬ ((0 ≤ a ∧ a ≤ 3 ∧ 0 ≤ b ∧ b ≤ 63) ∧ 1 ≤ v ∧ v ≤ 255)) (e : f n = w) (r : gRn N ty q (gfu f n w) h) : gRn N ty q (gVt f a b v) h := by
  rw [gfu_self e] at r
  exact gVt.n c r
theorem gVp.n {N : Nat} {ty : Nat → Nat} {q : Nat} {f : Nat → Int} {a b v : Int} {h : gH} (c : ¬ ((0 ≤ a ∧ a ≤ 31 ∧ 0 ≤ b ∧ b ≤ 31) ∧ 0 ≤ v ∧ v ≤ 255)) (r : gRn N ty q f h) : gRn N ty q (gVp f a b v) h := by
  unfold gVp
  rw [if_neg c]
  exact r
theorem gVp.y {N : Nat} {ty : Nat → Nat} {q : Nat} {f : Nat → Int} {a b v i : Int} {h : gH} (c : (0 ≤ a ∧ a ≤ 31 ∧ 0 ≤ b ∧ b ≤ 31) ∧ 0 ≤ v ∧ v ≤ 255) (e : i = b * 32 + a) (r : gRn N ty q (gfu f i.toNat v) h) : gRn N ty q (gVp f a b v) h := by
  unfold gVp
  rw [if_pos c, ← e]
  exact r
/-- a scan is told -/
abbrev gSk (f : Nat → Int) (n a b t : Int) : Prop := ((a = 0 ∧ b = 0) ∨ (1 ≤ a ∧ a ≤ b ∧ b ≤ 63 ∧ 0 ≤ f (0 : Int).toNat)) ∧ (0 ≤ t ∧ t ≤ 3) ∧ n < 10 ∧ (f a.toNat = -1 ∨ f a.toNat = t + 1) ∧ ∀ j : Nat, j < 64 → a ≤ (j : Int) ∧ (j : Int) ≤ b → f j = f a.toNat
theorem gSk.mk {f : Nat → Int} {n a b t : Int} (s1 : (a = 0 ∧ b = 0) ∨ (1 ≤ a ∧ a ≤ b ∧ b ≤ 63 ∧ 0 ≤ f (0 : Int).toNat)) (s2 : 0 ≤ t ∧ t ≤ 3) (s3 : n < 10) (s4 : f a.toNat = -1 ∨ f a.toNat = t + 1) (s5 : ∀ j : Int, a ≤ j → j ≤ b → f j.toNat = f a.toNat) : gSk f n a b t := ⟨s1, s2, s3, s4, fun j _ h => by
  have e := s5 (j : Int) h.1 h.2
  rwa [(by omega : (j : Int).toNat = j)] at e⟩
theorem gSk.at {f : Nat → Int} {n a b t : Int} (s : gSk f n a b t) {j : Int} (h1 : a ≤ j) (h2 : j ≤ b) : f j.toNat = f a.toNat := by
  obtain ⟨s1, _, _, _, s5⟩ := s
  exact s5 j.toNat (by omega) (by omega)
theorem gSk.cg {f g : Nat → Int} {n a b t : Int} (e : gEq 64 f g) (s : gSk f n a b t) : gSk g n a b t := by
  obtain ⟨s1, s2, s3, s4, s5⟩ := s
  have r : 0 ≤ a ∧ a ≤ b ∧ b ≤ 63 := by omega
  have ea := e a.toNat (by omega)
  have e0 := e (0 : Int).toNat (by decide)
  refine ⟨by rw [← e0]; exact s1, s2, s3, by rw [← ea]; exact s4, fun j h1 h2 => ?_⟩
  rw [← e j h1, ← ea]
  exact s5 j h1 h2
def gSz (f : Nat → Int) (n a b t z n1 : Int) : Prop := (gSk f n a b t → z = n + 1 ∧ n1 = n + 1) ∧ (¬ gSk f n a b t → z = 0 ∧ n1 = n)
theorem gSz.eq {f : Nat → Int} {n a b t z n1 y m1 : Int} (s : gSz f n a b t z n1) (s2 : gSz f n a b t y m1) : z = y ∧ n1 = m1 := by
  by_cases k : gSk f n a b t
  · have h1 := s.1 k
    have h2 := s2.1 k
    omega
  · have h1 := s.2 k
    have h2 := s2.2 k
    omega
theorem gOy.Rn {N : Nat} {ty : Nat → Nat} {q : Nat} {v k : Int} {h : gH} (hN : N ≤ k.toNat ∧ N ≤ 514) (s : gOy ty q v k h) : gRn N ty q (fun _ => v) h := by
  obtain ⟨f, x1, x2⟩ := s
  exact gRow.Rn hN.2 (fun j hj => x2 j (Nat.lt_of_lt_of_le hj hN.1)) x1
theorem gRn.new {N : Nat} {ty : Nat → Nat} {q c : Nat} {h : gH} (uq : gUq ty) (ht : ty c = q) (hq : 1 ≤ q ∧ q < 100) (hT : ∀ k, gpl rT q k = 1000 * q + 999) (d : ∀ k, h.2.2.2.2 c k = .int 0) : gRn N ty q (fun _ => 0) h := ⟨hT, fun c2 hc i _ => by
  have e9 : c2 = c := uq c2 c (hc.trans ht.symm) (by rw [hc]; exact hq.1) (by rw [hc]; exact hq.2)
  rw [e9, d]
  rfl⟩
theorem gTc.fn {ty : Nat → Nat} {n : Int} {h : gH} {f t : Nat → Int} {a b : Nat} (s : gTc ty n h) (rf : gRn 10 ty 60 f h) (rt : gRn 10 ty 61 t h) (c1 : ty a = 60) (c2 : ty b = 61) (hn : n ≤ 10) : (∀ j, j < n.toNat → f j ≤ t j) ∧ gTl f t n ≤ 256 := by
  obtain ⟨f2, t2, c, r1, r2, _, le, sm⟩ := s
  have ef : ∀ j, j < 10 → f j = f2 j := fun j hj => (rf.2 a c1 j hj).symm.trans (r1.2 a c1 j (by omega))
  have et : ∀ j, j < 10 → t j = t2 j := fun j hj => (rt.2 b c2 j hj).symm.trans (r2.2 b c2 j (by omega))
  refine ⟨fun j hj => ?_, ?_⟩
  · rw [ef j (by omega), et j (by omega)]
    exact le j hj
  · have e : gTl f t n = gTl f2 t2 n := gsf_cg (fun j hj => by rw [ef j (by omega), et j (by omega)])
    have := gsf_nn (f := fun j => gcr (c j)) (fun j => gcr_nn) 64
    omega
theorem gSW.rd {ty : Nat → Nat} {bt : Nat} {s : gWt} {h : gH} {i z : Int} (p : gSW ty bt s h) (e : h.2.2.2.2 bt i.toNat = .int (zi z)) (h0 : 0 ≤ i) (h1 : i < s.1) (r : -128 ≤ z ∧ z ≤ 127) : z = eeS (s.2.2.2 i.toNat) := by
  obtain ⟨b, e2⟩ := p.2.2 i.toNat (by omega)
  have b2 := eeS_b b
  exact (zi_inj (by omega) (by omega)).mp (Value.int.inj (e.symm.trans e2))
/-- the calls, as functions of the state -/
def eQ0 (S : gSS) (a b v : Int) : gSS := ((gVt S.1.1 a b v, S.1.2), S.2)
def eQ1 (S : gSS) (a b v : Int) : gSS := ((S.1.1, gVp S.1.2.1 a b v, S.1.2.2), S.2)
def eS2 (n : Int) (S : gSS) (a b t : Int) : gSS := ((S.1.1, S.1.2.1, gfu S.1.2.2.1 n.toNat a, gfu S.1.2.2.2.1 n.toNat b, gfu S.1.2.2.2.2.1 n.toNat (if S.1.2.2.2.2.2.2 a.toNat = -1 then 0 else S.1.2.2.2.2.2.2 a.toNat), gfu S.1.2.2.2.2.2.1 n.toNat t, fun j => if a.toNat ≤ j ∧ j < (b + 1).toNat then t else S.1.2.2.2.2.2.2 j), S.2)
def eQ2 (n : Int) (S : gSS) (a b t : Int) : gSS := if gSk S.1.2.2.2.2.2.2 n a b t then eS2 n S a b t else S
theorem eQ2_y {n : Int} {S : gSS} {a b t : Int} (k : gSk S.1.2.2.2.2.2.2 n a b t) : eQ2 n S a b t = eS2 n S a b t := if_pos k
theorem eQ2_n {n : Int} {S : gSS} {a b t : Int} (k : ¬ gSk S.1.2.2.2.2.2.2 n a b t) : eQ2 n S a b t = S := if_neg k
def eS3 (S : gSS) (sg : gWt) : gSS := ((S.1.1, S.1.2.1, S.1.2.2.1, S.1.2.2.2.1, S.1.2.2.2.2.1, S.1.2.2.2.2.2.1, fun _ => -1), sg)
def eNn (q i0 dw dh n0 : Int) (S : gSS) : gWt := eEn (eTb S.1.1 q) n0 dh dw i0 (eCf S.1.2.1 (eTb S.1.1 q) dw dh (zup dw 8)) (zup dw 8 * zup dh 8).toNat S.1.2.2.1 S.1.2.2.2.1 S.1.2.2.2.2.1 S.1.2.2.2.2.2.1
def eKk (q i0 dw dh n0 : Int) (S : gSS) (k : Int) : gWt := eEk n0 i0 (eCf S.1.2.1 (eTb S.1.1 q) dw dh (zup dw 8)) (zup dw 8 * zup dh 8).toNat S.1.2.2.1 S.1.2.2.2.1 S.1.2.2.2.2.1 S.1.2.2.2.2.2.1 (eHd (eTb S.1.1 q) n0 dh dw i0) k
theorem eKk_0 {q i0 dw dh n0 : Int} {S : gSS} (h : ¬ n0 = 0) : eKk q i0 dw dh n0 S 0 = eHd (eTb S.1.1 q) n0 dh dw i0 := eEk_0 h
theorem eKk_z {q i0 dw dh n0 k : Int} {S : gSS} (h : n0 = 0) : eKk q i0 dw dh n0 S k = eSc i0 0 63 0 0 (eCf S.1.2.1 (eTb S.1.1 q) dw dh (zup dw 8)) (zup dw 8 * zup dh 8).toNat (eHd (eTb S.1.1 q) n0 dh dw i0) := eEk_z h
theorem eKk_s {q i0 dw dh n0 k a b c d : Int} {S : gSS} (h0 : 0 ≤ k) (hn : ¬ n0 = 0) (ea : S.1.2.2.1 k.toNat = a) (eb : S.1.2.2.2.1 k.toNat = b) (ec : S.1.2.2.2.2.1 k.toNat = c) (ed : S.1.2.2.2.2.2.1 k.toNat = d) : eKk q i0 dw dh n0 S (k + 1) = eSc i0 a b c d (eCf S.1.2.1 (eTb S.1.1 q) dw dh (zup dw 8)) (zup dw 8 * zup dh 8).toNat (eKk q i0 dw dh n0 S k) := eEk_s h0 hn ea eb ec ed
theorem eKk_e {q i0 dw dh n0 k : Int} {S : gSS} (h : k = n0) : eNn q i0 dw dh n0 S = eeM (eKk q i0 dw dh n0 S k) 217 := eEk_e h
def eQ3 (q i0 dw dh n0 : Int) (S : gSS) : gSS := if 1 ≤ q ∧ q ≤ 100 ∧ ¬ dw = 0 then eS3 S (eNn q i0 dw dh n0 S) else S
theorem eQ3_y {q i0 dw dh n0 : Int} {S : gSS} (k : 1 ≤ q ∧ q ≤ 100 ∧ ¬ dw = 0) : eQ3 q i0 dw dh n0 S = eS3 S (eNn q i0 dw dh n0 S) := if_pos k
theorem eQ3_n {q i0 dw dh n0 : Int} {S : gSS} (k : ¬ (1 ≤ q ∧ q ≤ 100 ∧ ¬ dw = 0)) : eQ3 q i0 dw dh n0 S = S := if_neg k
def eTz (n : Int) (S : gSS) : Prop := ∀ j9 : Nat, j9 < n.toNat → S.1.2.2.1 j9 = 0 → S.1.2.2.2.1 j9 = 0
theorem eTz.tell {n : Int} {S : gSS} {a b t : Int} (h0 : 0 ≤ n) (p : eTz n S) (k : gSk S.1.2.2.2.2.2.2 n a b t) : eTz (n + 1) (eS2 n S a b t) := by
  intro j hj
  show gfu S.1.2.2.1 n.toNat a j = 0 → gfu S.1.2.2.2.1 n.toNat b j = 0
  by_cases e : j = n.toNat
  · rw [e, gfu_eq, gfu_eq]
    have := k.1
    omega
  · rw [gfu_ne e, gfu_ne e]
    exact p j (by omega)
theorem eTz.zero {S : gSS} : eTz 0 S := fun j hj => absurd hj (by omega)
theorem gRn.hc {N : Nat} {ty : Nat → Nat} {q : Nat} {f : Nat → Int} {h h' : gH} (H : ∀ c k, ty c = q → h'.2.2.2.2 c k = h.2.2.2.2 c k) (p : gRn N ty q f h) : gRn N ty q f h' := ⟨p.1, fun c hc i hi => by
  rw [H c i hc]
  exact p.2 c hc i hi⟩
def gXr (ty : Nat → Nat) (S : gSS) (h : gH) : Prop := gRn 256 ty 53 S.1.1 h ∧ gRn 1024 ty 59 S.1.2.1 h ∧ gRn 10 ty 60 S.1.2.2.1 h ∧ gRn 10 ty 61 S.1.2.2.2.1 h ∧ gRn 10 ty 62 S.1.2.2.2.2.1 h ∧ gRn 10 ty 63 S.1.2.2.2.2.2.1 h ∧ gRn 64 ty 64 S.1.2.2.2.2.2.2 h
theorem gXr.fr {ty : Nat → Nat} {S : gSS} {h h' : gH} {l : List Nat} (g : gFr rT ty l h h') (hl : ∀ x ∈ ([53999, 59999, 60999, 61999, 62999, 63999, 64999] : List Nat), ¬ x ∈ l) (p : gXr ty S h) : gXr ty S h' := by
  obtain ⟨a, b, c, d, e, f, k⟩ := p
  exact ⟨a.fr g (hl _ (by decide)), b.fr g (hl _ (by decide)), c.fr g (hl _ (by decide)), d.fr g (hl _ (by decide)), e.fr g (hl _ (by decide)), f.fr g (hl _ (by decide)), k.fr g (hl _ (by decide))⟩
theorem gXr.pt {ty : Nat → Nat} {S : gSS} {c9 j9 q2 : Nat} {h h' : gH} (g : ∀ x n, ¬ (x = c9 ∧ n = j9) → h'.2.2.2.2 x n = h.2.2.2.2 x n) (ht : ty c9 = q2) (hq : ∀ x ∈ ([53, 59, 60, 61, 62, 63, 64] : List Nat), q2 ≠ x) (p : gXr ty S h) : gXr ty S h' := by
  obtain ⟨a, b, c, d, e, f, k⟩ := p
  exact ⟨a.pt g ht (hq _ (by decide)), b.pt g ht (hq _ (by decide)), c.pt g ht (hq _ (by decide)), d.pt g ht (hq _ (by decide)), e.pt g ht (hq _ (by decide)), f.pt g ht (hq _ (by decide)), k.pt g ht (hq _ (by decide))⟩
theorem gXr.gr {nk X l : List Nat} {ty ty2 : Nat → Nat} {S : gSS} {h h2 : gH} (g : gSg nk X l ty h ty2 h2) (hJ : gJ rT 1027 ty h) (hn : ∀ x ∈ ([53, 59, 60, 61, 62, 63, 64] : List Nat), ¬ x ∈ nk) (hl : ∀ x ∈ ([53999, 59999, 60999, 61999, 62999, 63999, 64999] : List Nat), ¬ x ∈ l) (p : gXr ty S h) : gXr ty2 S h2 := by
  obtain ⟨a, b, c, d, e, f, k⟩ := p
  exact ⟨a.gr g hJ rfl (hn _ (by decide)) (hl _ (by decide)), b.gr g hJ rfl (hn _ (by decide)) (hl _ (by decide)), c.gr g hJ rfl (hn _ (by decide)) (hl _ (by decide)), d.gr g hJ rfl (hn _ (by decide)) (hl _ (by decide)), e.gr g hJ rfl (hn _ (by decide)) (hl _ (by decide)), f.gr g hJ rfl (hn _ (by decide)) (hl _ (by decide)), k.gr g hJ rfl (hn _ (by decide)) (hl _ (by decide))⟩
theorem gXr.hc {ty : Nat → Nat} {S : gSS} {h h' : gH} (H : ∀ c k, gpl rT (ty c) k ∈ ([53999, 59999, 60999, 61999, 62999, 63999, 64999] : List Nat) → h'.2.2.2.2 c k = h.2.2.2.2 c k) (p : gXr ty S h) : gXr ty S h' := by
  obtain ⟨a, b, c, d, e, f, k⟩ := p
  exact ⟨a.hc (fun y k9 hy => H y k9 (by rw [hy, a.1]; decide)), b.hc (fun y k9 hy => H y k9 (by rw [hy, b.1]; decide)), c.hc (fun y k9 hy => H y k9 (by rw [hy, c.1]; decide)), d.hc (fun y k9 hy => H y k9 (by rw [hy, d.1]; decide)), e.hc (fun y k9 hy => H y k9 (by rw [hy, e.1]; decide)), f.hc (fun y k9 hy => H y k9 (by rw [hy, f.1]; decide)), k.hc (fun y k9 hy => H y k9 (by rw [hy, k.1]; decide))⟩
theorem gXr.jk {ty : Nat → Nat} {S : gSS} {j : Nat} {h : gH} (p : gXr ty S h) : gXr ty S (gjunk j h) := by
  obtain ⟨a, b, c, d, e, f, k⟩ := p
  exact ⟨a.jk, b.jk, c.jk, d.jk, e.jk, f.jk, k.jk⟩
def gMw (ty : Nat → Nat) (S : gSS) (h : gH) : Prop := gRn 256 ty 8 S.1.1 h ∧ gRn 1024 ty 26 S.1.2.1 h ∧ gRn 10 ty 27 S.1.2.2.1 h ∧ gRn 10 ty 28 S.1.2.2.2.1 h ∧ gRn 10 ty 29 S.1.2.2.2.2.1 h ∧ gRn 10 ty 30 S.1.2.2.2.2.2.1 h ∧ gRn 64 ty 31 S.1.2.2.2.2.2.2 h
theorem gMw.fr {ty : Nat → Nat} {S : gSS} {h h' : gH} {l : List Nat} (g : gFr rT ty l h h') (hl : ∀ x ∈ ([8999, 26999, 27999, 28999, 29999, 30999, 31999] : List Nat), ¬ x ∈ l) (p : gMw ty S h) : gMw ty S h' := by
  obtain ⟨a, b, c, d, e, f, k⟩ := p
  exact ⟨a.fr g (hl _ (by decide)), b.fr g (hl _ (by decide)), c.fr g (hl _ (by decide)), d.fr g (hl _ (by decide)), e.fr g (hl _ (by decide)), f.fr g (hl _ (by decide)), k.fr g (hl _ (by decide))⟩
theorem gMw.pt {ty : Nat → Nat} {S : gSS} {c9 j9 q2 : Nat} {h h' : gH} (g : ∀ x n, ¬ (x = c9 ∧ n = j9) → h'.2.2.2.2 x n = h.2.2.2.2 x n) (ht : ty c9 = q2) (hq : ∀ x ∈ ([8, 26, 27, 28, 29, 30, 31] : List Nat), q2 ≠ x) (p : gMw ty S h) : gMw ty S h' := by
  obtain ⟨a, b, c, d, e, f, k⟩ := p
  exact ⟨a.pt g ht (hq _ (by decide)), b.pt g ht (hq _ (by decide)), c.pt g ht (hq _ (by decide)), d.pt g ht (hq _ (by decide)), e.pt g ht (hq _ (by decide)), f.pt g ht (hq _ (by decide)), k.pt g ht (hq _ (by decide))⟩
theorem gMw.gr {nk X l : List Nat} {ty ty2 : Nat → Nat} {S : gSS} {h h2 : gH} (g : gSg nk X l ty h ty2 h2) (hJ : gJ rT 1027 ty h) (hn : ∀ x ∈ ([8, 26, 27, 28, 29, 30, 31] : List Nat), ¬ x ∈ nk) (hl : ∀ x ∈ ([8999, 26999, 27999, 28999, 29999, 30999, 31999] : List Nat), ¬ x ∈ l) (p : gMw ty S h) : gMw ty2 S h2 := by
  obtain ⟨a, b, c, d, e, f, k⟩ := p
  exact ⟨a.gr g hJ rfl (hn _ (by decide)) (hl _ (by decide)), b.gr g hJ rfl (hn _ (by decide)) (hl _ (by decide)), c.gr g hJ rfl (hn _ (by decide)) (hl _ (by decide)), d.gr g hJ rfl (hn _ (by decide)) (hl _ (by decide)), e.gr g hJ rfl (hn _ (by decide)) (hl _ (by decide)), f.gr g hJ rfl (hn _ (by decide)) (hl _ (by decide)), k.gr g hJ rfl (hn _ (by decide)) (hl _ (by decide))⟩
theorem gMw.hc {ty : Nat → Nat} {S : gSS} {h h' : gH} (H : ∀ c k, gpl rT (ty c) k ∈ ([8999, 26999, 27999, 28999, 29999, 30999, 31999] : List Nat) → h'.2.2.2.2 c k = h.2.2.2.2 c k) (p : gMw ty S h) : gMw ty S h' := by
  obtain ⟨a, b, c, d, e, f, k⟩ := p
  exact ⟨a.hc (fun y k9 hy => H y k9 (by rw [hy, a.1]; decide)), b.hc (fun y k9 hy => H y k9 (by rw [hy, b.1]; decide)), c.hc (fun y k9 hy => H y k9 (by rw [hy, c.1]; decide)), d.hc (fun y k9 hy => H y k9 (by rw [hy, d.1]; decide)), e.hc (fun y k9 hy => H y k9 (by rw [hy, e.1]; decide)), f.hc (fun y k9 hy => H y k9 (by rw [hy, f.1]; decide)), k.hc (fun y k9 hy => H y k9 (by rw [hy, k.1]; decide))⟩
theorem gMw.jk {ty : Nat → Nat} {S : gSS} {j : Nat} {h : gH} (p : gMw ty S h) : gMw ty S (gjunk j h) := by
  obtain ⟨a, b, c, d, e, f, k⟩ := p
  exact ⟨a.jk, b.jk, c.jk, d.jk, e.jk, f.jk, k.jk⟩
theorem gXr.pa {ty : Nat → Nat} {S : gSS} {c9 q2 : Nat} {Q : Nat → Prop} {h h' : gH} (g : ∀ x j, ¬ (x = c9 ∧ Q j) → h'.2.2.2.2 x j = h.2.2.2.2 x j) (ht : ty c9 = q2) (hq : ∀ x ∈ ([53, 59, 60, 61, 62, 63, 64] : List Nat), q2 ≠ x) (p : gXr ty S h) : gXr ty S h' := by
  obtain ⟨a, b, c, d, e, f, k⟩ := p
  have w : ∀ q, q2 ≠ q → ∀ c k, ty c = q → h'.2.2.2.2 c k = h.2.2.2.2 c k := fun q hn c k hc => g c k (fun w => hn (by rw [← ht, ← w.1]; exact hc))
  exact ⟨a.hc (w _ (hq _ (by decide))), b.hc (w _ (hq _ (by decide))), c.hc (w _ (hq _ (by decide))), d.hc (w _ (hq _ (by decide))), e.hc (w _ (hq _ (by decide))), f.hc (w _ (hq _ (by decide))), k.hc (w _ (hq _ (by decide)))⟩
theorem gSW.pa {ty : Nat → Nat} {bt c q2 : Nat} {s : gWt} {Q : Nat → Prop} {h h' : gH} (f : ∀ x j, ¬ (x = c ∧ Q j) → h'.2.2.2.2 x j = h.2.2.2.2 x j) (ht : ty c = q2) (hq : ∀ x ∈ ([114] : List Nat), q2 ≠ x) (p : gSW ty bt s h) : gSW ty bt s h' := ⟨p.1, p.2.1, fun j hj => ⟨(p.2.2 j hj).1, (f bt j (fun w => hq 114 (List.mem_singleton.mpr rfl) (by rw [← ht, ← w.1]; exact p.1))).trans (p.2.2 j hj).2⟩⟩
theorem gSW.hc {ty : Nat → Nat} {bt : Nat} {s : gWt} {h h' : gH} (H : ∀ k, h'.2.2.2.2 bt k = h.2.2.2.2 bt k) (p : gSW ty bt s h) : gSW ty bt s h' := ⟨p.1, p.2.1, fun j hj => ⟨(p.2.2 j hj).1, (H j).trans (p.2.2 j hj).2⟩⟩
theorem gms {a b : Int} {fu : Nat} (h : a.toNat < fu + 1) (h1 : b < a) (h2 : 0 < a) : b.toNat < fu := by omega
def gIf (A B : Prop) : Prop := A → B
theorem gz01 {x : Int} (h0 : ¬ x = 0) (h1 : 0 ≤ x) (h2 : x ≤ 1) : x = 1 := by omega
theorem zl_sh26 : ∀ k : Fin 256, zl (k.val : Int) <<< ((zi 26).toInt64 &&& 63) = zl ((k.val : Int) * 67108864) := by decide +kernel
section GLS
variable {P : Nat → Option gMt} {G : gG} {cn : Nat → Option Nat} {d : Nat} {t : gMt} {pc : Nat} {L : gL} {S : List Value} {h : gH} {F : gR → gL → Prop}
theorem gy_lsh26 {x : Int} (hlk : glk pc (gmC t) = some (.lshl, 1)) (hx : ¬ pc ∈ gmE t) (ha : 0 ≤ x ∧ x < 256) (k : gz P G cn d t (pc + 1) L (.long (zl (x * 67108864)) :: S) h F) : gz P G cn d t pc L (.int (zi 26) :: .long (zl x) :: S) h F := by
  obtain ⟨n, rfl⟩ := Int.eq_ofNat_of_zero_le ha.1
  refine gz_0 hlk (fun q => q.elim (fun z => by cases z) hx) rfl ?_ k
  simp only [gst0, gLI]
  rw [if_pos trivial, zl_sh26 ⟨n, by omega⟩]
end GLS
theorem zdv {a m : Int} (ha : 0 ≤ a ∧ a ≤ 137438953472) (hm : 1 ≤ m ∧ m ≤ 255) : 0 ≤ (a + m * 67108864 / 2) / (m * 67108864) ∧ (a + m * 67108864 / 2) / (m * 67108864) ≤ 2048 := by
  refine ⟨Int.ediv_nonneg (by omega) (by omega), ?_⟩
  exact Int.le_of_lt_add_one (Int.ediv_lt_of_lt_mul (by omega) (by omega))
