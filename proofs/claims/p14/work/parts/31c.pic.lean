/-! ===== the picture's bands (by program) ===== -/
def gPk (A B wd hg hb vb C R oc orr f : Int) : Prop := 1 ≤ hb ∧ hb ≤ wd ∧ 1 ≤ vb ∧ vb ≤ hg ∧ C = A * hb ∧ R = B * vb ∧ 1 ≤ oc ∧ oc ≤ C ∧ 1 ≤ orr ∧ orr ≤ R ∧ 0 ≤ f ∧ f + C * R ≤ 192 ∧ 1 ≤ A ∧ A ≤ 8 ∧ 1 ≤ B ∧ B ≤ 8 ∧ C ≤ 8 ∧ R ≤ 8
def gPic (ty : Nat → Nat) (w hh wd hg bs : Int) (h : gH) : Prop := (1 ≤ w ∧ w ≤ 64 ∧ 1 ≤ hh ∧ hh ≤ 64 ∧ 1 ≤ wd ∧ wd ≤ 2 ∧ 1 ≤ hg ∧ hg ≤ 2 ∧ 1 ≤ bs ∧ bs ≤ 3 ∧ ¬ bs = 2) ∧ ∀ b : Int, 0 ≤ b → b < bs → ∃ hb vb C R oc orr f : Int, gEl ty 12 b hb hb h ∧ gEl ty 13 b vb vb h ∧ gEl ty 15 b C C h ∧ gEl ty 16 b R R h ∧ gEl ty 17 b oc oc h ∧ gEl ty 18 b orr orr h ∧ gEl ty 19 b f f h ∧ gEl ty 14 b 0 3 h ∧ gPk (zup w (8 * wd)) (zup hh (8 * hg)) wd hg hb vb C R oc orr f
theorem gPic.fr {ty : Nat → Nat} {w hh wd hg bs : Int} {h h' : gH} {l : List Nat} (g : gFr rT ty l h h') (hl : ∀ x ∈ ([12999, 13999, 15999, 16999, 17999, 18999, 19999, 14999] : List Nat), ¬ x ∈ l) (p : gPic ty w hh wd hg bs h) : gPic ty w hh wd hg bs h' := by
  refine ⟨p.1, fun b h0 h1 => ?_⟩
  obtain ⟨hb, vb, C, R, oc, orr, f, e1, e2, e3, e4, e5, e6, e7, e8, k⟩ := p.2 b h0 h1
  exact ⟨hb, vb, C, R, oc, orr, f, gEl.fr g (hl _ (by decide)) (fun _ => rfl) e1, gEl.fr g (hl _ (by decide)) (fun _ => rfl) e2, gEl.fr g (hl _ (by decide)) (fun _ => rfl) e3, gEl.fr g (hl _ (by decide)) (fun _ => rfl) e4, gEl.fr g (hl _ (by decide)) (fun _ => rfl) e5, gEl.fr g (hl _ (by decide)) (fun _ => rfl) e6, gEl.fr g (hl _ (by decide)) (fun _ => rfl) e7, gEl.fr g (hl _ (by decide)) (fun _ => rfl) e8, k⟩
theorem gPic.pt {ty : Nat → Nat} {w hh wd hg bs : Int} {h h' : gH} {c k q2 : Nat} (f : ∀ x j, ¬ (x = c ∧ j = k) → h'.2.2.2.2 x j = h.2.2.2.2 x j) (ht : ty c = q2) (hq : ∀ x ∈ ([12, 13, 15, 16, 17, 18, 19, 14] : List Nat), q2 ≠ x) (p : gPic ty w hh wd hg bs h) : gPic ty w hh wd hg bs h' := by
  refine ⟨p.1, fun b h0 h1 => ?_⟩
  obtain ⟨hb, vb, C, R, oc, orr, f9, e1, e2, e3, e4, e5, e6, e7, e8, k⟩ := p.2 b h0 h1
  exact ⟨hb, vb, C, R, oc, orr, f9, gEl.pt f ht (hq _ (by decide)) e1, gEl.pt f ht (hq _ (by decide)) e2, gEl.pt f ht (hq _ (by decide)) e3, gEl.pt f ht (hq _ (by decide)) e4, gEl.pt f ht (hq _ (by decide)) e5, gEl.pt f ht (hq _ (by decide)) e6, gEl.pt f ht (hq _ (by decide)) e7, gEl.pt f ht (hq _ (by decide)) e8, k⟩
def gSb (ty : Nat → Nat) (sb bs : Int) (h : gH) : Prop := (1 ≤ sb ∧ sb ≤ 3) ∧ ∀ i : Int, 0 ≤ i → i < sb → ∃ b : Int, 0 ≤ b ∧ b < bs ∧ gEl ty 25 i b b h ∧ gEl ty 21 b 0 3 h ∧ gEl ty 22 b 4 7 h
theorem gSb.fr {ty : Nat → Nat} {sb bs : Int} {h h' : gH} {l : List Nat} (g : gFr rT ty l h h') (hl : ∀ x ∈ ([25999, 21999, 22999] : List Nat), ¬ x ∈ l) (p : gSb ty sb bs h) : gSb ty sb bs h' := by
  refine ⟨p.1, fun i h0 h1 => ?_⟩
  obtain ⟨b, k0, k1, e1, e2, e3⟩ := p.2 i h0 h1
  exact ⟨b, k0, k1, gEl.fr g (hl _ (by decide)) (fun _ => rfl) e1, gEl.fr g (hl _ (by decide)) (fun _ => rfl) e2, gEl.fr g (hl _ (by decide)) (fun _ => rfl) e3⟩
theorem gSb.pt {ty : Nat → Nat} {sb bs : Int} {h h' : gH} {c k q2 : Nat} (f : ∀ x j, ¬ (x = c ∧ j = k) → h'.2.2.2.2 x j = h.2.2.2.2 x j) (ht : ty c = q2) (hq : ∀ x ∈ ([25, 21, 22] : List Nat), q2 ≠ x) (p : gSb ty sb bs h) : gSb ty sb bs h' := by
  refine ⟨p.1, fun i h0 h1 => ?_⟩
  obtain ⟨b, k0, k1, e1, e2, e3⟩ := p.2 i h0 h1
  exact ⟨b, k0, k1, gEl.pt f ht (hq _ (by decide)) e1, gEl.pt f ht (hq _ (by decide)) e2, gEl.pt f ht (hq _ (by decide)) e3⟩
theorem zb1 {u oc orr C R f : Int} (h0 : 0 ≤ u) (hu : u < oc * orr) (h1 : 1 ≤ oc) (h2 : oc ≤ C) (h3 : orr ≤ R) (h4 : 0 ≤ f) (h5 : f + C * R ≤ 192) : 0 ≤ C * (u / oc) ∧ 0 ≤ f + C * (u / oc) + u % oc ∧ f + C * (u / oc) + u % oc ≤ 191 := by
  have g1 : u / oc < orr := Int.ediv_lt_of_lt_mul (by omega) (by rw [Int.mul_comm]; exact hu)
  have g2 := Int.ediv_nonneg h0 (by omega : (0 : Int) ≤ oc)
  have g3 := Int.emod_nonneg u (by omega : oc ≠ 0)
  have g4 := Int.emod_lt_of_pos u (by omega : (0 : Int) < oc)
  have g5 : C * (u / oc) ≤ C * (R - 1) := Int.mul_le_mul_of_nonneg_left (by omega) (by omega)
  have g6 : C * (R - 1) = C * R - C := by rw [Int.mul_sub, Int.mul_one]
  have g7 : 0 ≤ C * (u / oc) := Int.mul_nonneg (by omega) g2
  omega
theorem zb2 {u k A' A B C R f hb vb : Int} (hA : A' = A) (h0 : 0 ≤ u) (hu : u < A * B) (k0 : 0 ≤ k) (hk : k < hb * vb) (h1 : 1 ≤ A) (h6 : 1 ≤ hb) (h7 : 1 ≤ vb) (hC : C = A * hb) (hR : R = B * vb) (h4 : 0 ≤ f) (h5 : f + C * R ≤ 192) : 0 ≤ C * (vb * (u / A') + k / hb) ∧ 0 ≤ f + C * (vb * (u / A') + k / hb) + (hb * (u % A') + k % hb) ∧ f + C * (vb * (u / A') + k / hb) + (hb * (u % A') + k % hb) ≤ 191 := by
  subst hA
  have g1 : u / A' < B := Int.ediv_lt_of_lt_mul (by omega) (by rw [Int.mul_comm]; exact hu)
  have g2 := Int.ediv_nonneg h0 (by omega : (0 : Int) ≤ A')
  have g3 := Int.emod_nonneg u (by omega : A' ≠ 0)
  have g4 := Int.emod_lt_of_pos u (by omega : (0 : Int) < A')
  have i1 : k / hb < vb := Int.ediv_lt_of_lt_mul (by omega) (by rw [Int.mul_comm]; exact hk)
  have i2 := Int.ediv_nonneg k0 (by omega : (0 : Int) ≤ hb)
  have i3 := Int.emod_nonneg k (by omega : hb ≠ 0)
  have i4 := Int.emod_lt_of_pos k (by omega : (0 : Int) < hb)
  have j1 : hb * (u % A') ≤ hb * (A' - 1) := Int.mul_le_mul_of_nonneg_left (by omega) (by omega)
  have j2 : hb * (A' - 1) = C - hb := by rw [hC, Int.mul_sub, Int.mul_one, Int.mul_comm]
  have j3 : 0 ≤ hb * (u % A') := Int.mul_nonneg (by omega) g3
  have j4 : vb * (u / A') ≤ vb * (B - 1) := Int.mul_le_mul_of_nonneg_left (by omega) (by omega)
  have j5 : vb * (B - 1) = R - vb := by rw [hR, Int.mul_sub, Int.mul_one, Int.mul_comm]
  have j6 : 0 ≤ vb * (u / A') := Int.mul_nonneg (by omega) g2
  have hC0 : 0 ≤ C := by rw [hC]; exact Int.mul_nonneg (by omega) (by omega)
  have g5 : C * (vb * (u / A') + k / hb) ≤ C * (R - 1) := Int.mul_le_mul_of_nonneg_left (by omega) hC0
  have g6 : C * (R - 1) = C * R - C := by rw [Int.mul_sub, Int.mul_one]
  have g7 : 0 ≤ C * (vb * (u / A') + k / hb) := Int.mul_nonneg hC0 (by omega)
  omega
theorem gPic.all {ty : Nat → Nat} {w hh wd hg bs : Int} {h : gH} (p : gPic ty w hh wd hg bs h) : 1 ≤ zup w (8 * wd) ∧ zup w (8 * wd) ≤ 8 ∧ 1 ≤ zup hh (8 * hg) ∧ zup hh (8 * hg) ≤ 8 := by
  obtain ⟨_, _, _, _, _, _, _, -, -, -, -, -, -, -, -, k⟩ := p.2 0 (by omega) (by have := p.1; omega)
  unfold gPk at k
  omega
theorem zmd {x y : Int} (hx : 0 < x) (hy : 0 < y) (h : x % y = 0) : y ≤ x := Int.le_of_dvd hx (Int.dvd_of_emod_eq_zero h)
theorem zb3 {a b : Int} (h1 : 1 ≤ a ∧ a ≤ 8) (h2 : 1 ≤ b ∧ b ≤ 8) : 1 ≤ a * b ∧ a * b ≤ 64 := by
  have g1 : a * b ≤ 8 * 8 := Int.mul_le_mul h1.2 h2.2 (by omega) (by omega)
  have g2 : 1 * 1 ≤ a * b := Int.mul_le_mul h1.1 h2.1 (by omega) (by omega)
  omega
/-! ===== codes' counts; a picture that may be there (by program) ===== -/
def gSmr (ty : Nat → Nat) (q c : Nat) (h0 h : gH) : Prop := ty c = q ∧ (∀ k, gpl rT q k = 1000 * q + 999) ∧ ∀ k, h.2.2.2.2 c k = h0.2.2.2.2 c k
theorem gSmr.fr {ty : Nat → Nat} {q c : Nat} {h0 h h' : gH} {l : List Nat} (g : gFr rT ty l h h') (hl : ¬ (1000 * q + 999) ∈ l) (p : gSmr ty q c h0 h) : gSmr ty q c h0 h' := ⟨p.1, p.2.1, fun k => (g.2.2.2.2 c k (by rw [p.1, p.2.1]; exact hl)).trans (p.2.2 k)⟩
theorem gSmr.pt {ty : Nat → Nat} {q c b j q2 : Nat} {h0 h h' : gH} (f : ∀ x n, ¬ (x = b ∧ n = j) → h'.2.2.2.2 x n = h.2.2.2.2 x n) (ht : ty b = q2) (hq : q2 ≠ q) (p : gSmr ty q c h0 h) : gSmr ty q c h0 h' := ⟨p.1, p.2.1, fun k => (f c k (fun w => hq (by rw [← ht, ← p.1, w.1]))).trans (p.2.2 k)⟩
def gCn (ty : Nat → Nat) (q c : Nat) (n : Int) (h : gH) : Prop := ty c = q ∧ (∀ k, gpl rT q k = 1000 * q + 999) ∧ gsm h c 16 = n
theorem gCn.fr {ty : Nat → Nat} {q c : Nat} {n : Int} {h h' : gH} {l : List Nat} (g : gFr rT ty l h h') (hl : ¬ (1000 * q + 999) ∈ l) (p : gCn ty q c n h) : gCn ty q c n h' := ⟨p.1, p.2.1, (gsm_cg (fun k _ => g.2.2.2.2 c k (by rw [p.1, p.2.1]; exact hl))).trans p.2.2⟩
theorem gCn.pt {ty : Nat → Nat} {q c b j q2 : Nat} {n : Int} {h h' : gH} (f : ∀ x n, ¬ (x = b ∧ n = j) → h'.2.2.2.2 x n = h.2.2.2.2 x n) (ht : ty b = q2) (hq : q2 ≠ q) (p : gCn ty q c n h) : gCn ty q c n h' := ⟨p.1, p.2.1, (gsm_cg (fun k _ => f c k (fun w => hq (by rw [← ht, ← p.1, w.1])))).trans p.2.2⟩
def gPi (ty : Nat → Nat) (ip w hh wd hg bs : Int) (h : gH) : Prop := ip = 1 → gPic ty w hh wd hg bs h
theorem gPi.fr {ty : Nat → Nat} {ip w hh wd hg bs : Int} {h h' : gH} {l : List Nat} (g : gFr rT ty l h h') (hl : ∀ x ∈ ([12999, 13999, 15999, 16999, 17999, 18999, 19999, 14999] : List Nat), ¬ x ∈ l) (p : gPi ty ip w hh wd hg bs h) : gPi ty ip w hh wd hg bs h' := fun e => (p e).fr g hl
theorem gPi.pt {ty : Nat → Nat} {ip w hh wd hg bs : Int} {h h' : gH} {c k q2 : Nat} (f : ∀ x j, ¬ (x = c ∧ j = k) → h'.2.2.2.2 x j = h.2.2.2.2 x j) (ht : ty c = q2) (hq : ∀ x ∈ ([12, 13, 15, 16, 17, 18, 19, 14] : List Nat), q2 ≠ x) (p : gPi ty ip w hh wd hg bs h) : gPi ty ip w hh wd hg bs h' := fun e => (p e).pt f ht hq
def gSbc (ty : Nat → Nat) (fv k bs : Int) (h : gH) : Prop := fv = -1 → ∀ i : Int, 0 ≤ i → i < k → ∃ b : Int, 0 ≤ b ∧ b < bs ∧ gEl ty 25 i b b h ∧ gEl ty 21 b 0 3 h ∧ gEl ty 22 b 4 7 h
theorem gSbc.fr {ty : Nat → Nat} {fv k bs : Int} {h h' : gH} {l : List Nat} (g : gFr rT ty l h h') (hl : ∀ x ∈ ([25999, 21999, 22999] : List Nat), ¬ x ∈ l) (p : gSbc ty fv k bs h) : gSbc ty fv k bs h' := by
  intro e i h0 h1
  obtain ⟨b, k0, k1, e1, e2, e3⟩ := p e i h0 h1
  exact ⟨b, k0, k1, gEl.fr g (hl _ (by decide)) (fun _ => rfl) e1, gEl.fr g (hl _ (by decide)) (fun _ => rfl) e2, gEl.fr g (hl _ (by decide)) (fun _ => rfl) e3⟩
theorem gSbc.pt {ty : Nat → Nat} {fv k bs : Int} {h h' : gH} {c j q2 : Nat} (f : ∀ x n, ¬ (x = c ∧ n = j) → h'.2.2.2.2 x n = h.2.2.2.2 x n) (ht : ty c = q2) (hq : ∀ x ∈ ([25, 21, 22] : List Nat), q2 ≠ x) (p : gSbc ty fv k bs h) : gSbc ty fv k bs h' := by
  intro e i h0 h1
  obtain ⟨b, k0, k1, e1, e2, e3⟩ := p e i h0 h1
  exact ⟨b, k0, k1, gEl.pt f ht (hq _ (by decide)) e1, gEl.pt f ht (hq _ (by decide)) e2, gEl.pt f ht (hq _ (by decide)) e3⟩
/-- one place of a row is put: what is known of this or another place -/
theorem gEl.put {ty : Nat → Nat} {h h' : gH} {q c : Nat} {i j z lo hi : Int} (uq : gUq ty) (ht : ty c = q) (hq : 1 ≤ q ∧ q < 100) (f : ∀ x n, ¬ (x = c ∧ n = i.toNat) → h'.2.2.2.2 x n = h.2.2.2.2 x n) (e : h'.2.2.2.2 c i.toNat = .int (zi z)) (h1 : -2147483648 ≤ z) (h2 : z ≤ 2147483647) (i0 : 0 ≤ i) (j0 : 0 ≤ j) (hz : lo ≤ z ∧ z ≤ hi) (p : gEl ty q j lo hi h) : gEl ty q j lo hi h' := by
  by_cases hj : j = i
  · rw [hj]
    exact (gEl.set uq ht hq e h1 h2).wd hz.1 hz.2
  · exact gEl.ot f p (by omega)
theorem gSbc.step {ty : Nat → Nat} {fv fv2 k bs b v1 v2 : Int} {h h1 h2 h3 : gH} {c1 c2 c3 : Nat} (uq : gUq ty) (t1 : ty c1 = 25) (t2 : ty c2 = 21) (t3 : ty c3 = 22)
    (f1 : ∀ x n, ¬ (x = c1 ∧ n = k.toNat) → h1.2.2.2.2 x n = h.2.2.2.2 x n) (e1 : h1.2.2.2.2 c1 k.toNat = .int (zi b))
    (f2 : ∀ x n, ¬ (x = c2 ∧ n = b.toNat) → h2.2.2.2.2 x n = h1.2.2.2.2 x n) (e2 : h2.2.2.2.2 c2 b.toNat = .int (zi v1))
    (f3 : ∀ x n, ¬ (x = c3 ∧ n = b.toNat) → h3.2.2.2.2 x n = h2.2.2.2.2 x n) (e3 : h3.2.2.2.2 c3 b.toNat = .int (zi v2))
    (hk : 0 ≤ k) (hb : 0 ≤ b ∧ b < bs ∧ b < 3) (hv : fv2 = -1 → fv = -1 ∧ 0 ≤ v1 ∧ v1 ≤ 3 ∧ 4 ≤ v2 ∧ v2 ≤ 7) (p : gSbc ty fv k bs h) : gSbc ty fv2 (k + 1) bs h3 := by
  intro e i i0 i1
  obtain ⟨hf, w1, w2, w3, w4⟩ := hv e
  by_cases hi : i = k
  · rw [hi]
    refine ⟨b, hb.1, hb.2.1, ?_, ?_, ?_⟩
    · exact gEl.pt f3 t3 (by decide) (gEl.pt f2 t2 (by decide) (gEl.set uq t1 (by decide) e1 (by omega) (by omega)))
    · exact gEl.pt f3 t3 (by decide) ((gEl.set uq t2 (by decide) e2 (by omega) (by omega)).wd w1 w2)
    · exact (gEl.set uq t3 (by decide) e3 (by omega) (by omega)).wd w3 w4
  · obtain ⟨b9, k0, k1, x1, x2, x3⟩ := p hf i i0 (by omega)
    refine ⟨b9, k0, k1, ?_, ?_, ?_⟩
    · exact gEl.pt f3 t3 (by decide) (gEl.pt f2 t2 (by decide) (gEl.ot f1 x1 (by omega)))
    · exact gEl.pt f3 t3 (by decide) (gEl.put uq t2 (by decide) f2 e2 (by omega) (by omega) hb.1 k0 ⟨w1, w2⟩ (gEl.pt f1 t1 (by decide) x2))
    · exact gEl.put uq t3 (by decide) f3 e3 (by omega) (by omega) hb.1 k0 ⟨w3, w4⟩ (gEl.pt f2 t2 (by decide) (gEl.pt f1 t1 (by decide) x3))
def gOt (ty : Nat → Nat) (n : Int) (h : gH) : Prop := ∀ i : Int, 0 ≤ i → i < n → gEl ty 34 i 1 255 h
theorem gOt.fr {ty : Nat → Nat} {n : Int} {h h' : gH} {l : List Nat} (g : gFr rT ty l h h') (hl : ∀ x ∈ ([34999] : List Nat), ¬ x ∈ l) (p : gOt ty n h) : gOt ty n h' := fun i h0 h1 => gEl.fr g (hl _ (by decide)) (fun _ => rfl) (p i h0 h1)
theorem gOt.pt {ty : Nat → Nat} {n : Int} {h h' : gH} {c k q2 : Nat} (f : ∀ x j, ¬ (x = c ∧ j = k) → h'.2.2.2.2 x j = h.2.2.2.2 x j) (ht : ty c = q2) (hq : ∀ x ∈ ([34] : List Nat), q2 ≠ x) (p : gOt ty n h) : gOt ty n h' := fun i h0 h1 => gEl.pt f ht (hq _ (by decide)) (p i h0 h1)
