/-! ===== the reference's codes ===== -/
theorem emL_st {wt gr pa : Nat → Int} {k bt : Int} (h0 : 0 ≤ k) (hb : bt = emL wt gr pa k.toNat) : emL wt gr pa (k + 1).toNat = if (0 < wt k.toNat ∧ pa k.toNat = -1) ∧ (bt = -1 ∨ wt k.toNat < wt bt.toNat ∨ (wt k.toNat = wt bt.toNat ∧ gr bt.toNat < gr k.toNat)) then k else bt := by
  rw [(by omega : (k + 1).toNat = k.toNat + 1), hb]
  show (if (0 < wt k.toNat ∧ pa k.toNat = -1) ∧ (emL wt gr pa k.toNat = -1 ∨ wt k.toNat < wt (emL wt gr pa k.toNat).toNat ∨ (wt k.toNat = wt (emL wt gr pa k.toNat).toNat ∧ gr (emL wt gr pa k.toNat).toNat < gr k.toNat)) then ((k.toNat : Nat) : Int) else emL wt gr pa k.toNat) = _
  rw [(by omega : ((k.toNat : Nat) : Int) = k)]
def ewz (w : Nat → Int) : Nat → Int := fun k => if k < 257 then w k else 0
theorem gsf_two {f : Nat → Int} {n i j : Nat} (hf : ∀ x, x < n → 0 ≤ f x) (hi : i < n) (hj : j < n) (hij : i ≠ j) : f i + f j ≤ gsf f n := by
  have e := gsf_up (f := f) (i := i) (v := 0) hi
  have l := gsf_le2 (f := gfu f i 0) (n := n) (i := j) (fun x hx => by unfold gfu; split; exact Int.le_refl 0; exact hf x hx) hj
  rw [gfu_ne (Ne.symm hij)] at l
  omega
/-- the tree while it grows -/
def emW (w : Nat → Int) (nd mo : Int) (wt gr pa : Nat → Int) : Prop := emI w (nd - 257).toNat wt gr pa ∧ (nd - 257 ≤ eac w - 1) ∧ (mo = 0 → ehB (ehR w (nd - 257).toNat) = -1)
theorem emW.zero {w wt gr pa : Nat → Int} (h6 : 0 < w 256) (h1 : ∀ k, k < 514 → wt k = ewz w k) (h2 : ∀ k : Nat, k < 514 → gr k = (k : Int)) (h3 : ∀ k, k < 514 → pa k = -1) : emW w 257 1 wt gr pa := ⟨emI.zero (fun k hk => by rw [h1 k (by omega)]; exact if_pos hk) h2 h3, by have := eac_1 h6; omega, fun h => absurd h (by decide)⟩
/-- the least node is there -/
theorem emW.a {w wt gr pa : Nat → Int} {nd mo a : Int} (p : emW w nd mo wt gr pa) (hn : 257 ≤ nd) (h0 : ∀ x, x < 257 → 0 ≤ w x) (h6 : 0 < w 256) (ha : a = emL wt gr pa nd.toNat) : 0 ≤ a ∧ a < nd ∧ emA wt pa a.toNat ∧ ehA (ehR w (nd - 257).toNat) = gr a.toNat := by
  have en : 257 + (nd - 257).toNat = nd.toNat := by omega
  have i := ehI.all h0 (nd - 257).toNat
  rcases p.1.a with ⟨_, e2⟩ | ⟨a0, a1, a2, a3⟩
  · exfalso
    obtain ⟨g0, g1, g2, _⟩ := i.2.1 256 (by omega) h6
    have pa := ehL_P (ehR w (nd - 257).toNat).1 (-1) 257
    change ehP _ (-1) 257 (ehA (ehR w (nd - 257).toNat)) at pa
    rcases pa with ⟨_, q⟩ | ⟨b0, _⟩
    · have := q ((ehR w (nd - 257).toNat).2.1 256).toNat (by omega) g2
      omega
    · omega
  · rw [en] at a0 a1 a2 a3
    rw [← ha] at a0 a1 a2 a3
    exact ⟨a0, by omega, a2, a3⟩
theorem emW.stop {w wt gr pa : Nat → Int} {nd mo a b : Int} (p : emW w nd mo wt gr pa) (hn : 257 ≤ nd) (a0 : 0 ≤ a) (a1 : a < nd) (a2 : emA wt pa a.toNat) (a3 : ehA (ehR w (nd - 257).toNat) = gr a.toNat) (hb : b = emL wt gr (gfu pa a.toNat nd) nd.toNat) (hb1 : b = -1) : emW w nd 0 wt gr pa := by
  have en : 257 + (nd - 257).toNat = nd.toNat := by omega
  rcases p.1.b (a := a.toNat) (v := nd) (by omega) a2 a3 (by omega) with ⟨_, e2⟩ | ⟨b0, _⟩
  · exact ⟨p.1, p.2.1, fun _ => e2⟩
  · rw [en] at b0
    omega
theorem emW.join {w wt gr pa : Nat → Int} {nd mo a b wa wb ga gb gm : Int} (p : emW w nd mo wt gr pa) (hn : 257 ≤ nd) (hw : ∀ x, x < 257 → 0 ≤ w x) (hs : gsf w 257 ≤ 1999) (h6 : 0 < w 256) (a0 : 0 ≤ a) (a1 : a < nd) (a2 : emA wt pa a.toNat) (a3 : ehA (ehR w (nd - 257).toNat) = gr a.toNat) (hb : b = emL wt gr (gfu pa a.toNat nd) nd.toNat) (hb1 : ¬ b = -1) : (0 ≤ b ∧ b < nd ∧ wt a.toNat + wt b.toNat ≤ 1999 ∧ nd + 1 ≤ 513) ∧ ∀ wa wb ga gb gm : Int, wt a.toNat = wa → wt b.toNat = wb → gr a.toNat = ga → gr b.toNat = gb → (gm = if gb < ga then ga else gb) → emW w (nd + 1) 1 (gfu wt nd.toNat (wa + wb)) (gfu gr nd.toNat gm) (gfu (gfu pa a.toNat nd) b.toNat nd) := by
  have en : 257 + (nd - 257).toNat = nd.toNat := by omega
  have e1 : 257 + (nd - 257).toNat < 514 ∨ True := Or.inr trivial
  have h1 := eac_1 h6
  have h257 := eac_257 w
  rcases p.1.b (a := a.toNat) (v := nd) (by omega) a2 a3 (by omega) with ⟨e, _⟩ | ⟨b0, b1, b2, b3, b4⟩
  · rw [en] at e
    omega
  · rw [en] at b0 b1 b2 b3 b4
    rw [← hb] at b0 b1 b2 b3 b4
    have i := ehI.all hw (nd - 257).toNat
    obtain ⟨i1, i2, i3, i4, i5, i6⟩ := p.1
    obtain ⟨ga0, ga1, ga2⟩ := i2 a.toNat (by omega) a2
    obtain ⟨gb0, gb1, gb2⟩ := i2 b.toNat (by omega) b2
    have gab : ¬ gr a.toNat = gr b.toNat := fun c => b3 (i3 b.toNat a.toNat (by omega) (by omega) b2 a2 c.symm)
    have two := gsf_two (f := (ehR w (nd - 257).toNat).1) (n := 257) (i := (gr a.toNat).toNat) (j := (gr b.toNat).toNat) i.1 (by omega) (by omega) (by omega)
    have sum := i.2.2.2.2
    have cnt := eac_R h1 (nd - 257).toNat (by have := p.2.1; omega)
    have ea2 := eac_two (w := (ehR w (nd - 257).toNat).1) (a := (gr a.toNat).toNat) (b := (gr b.toNat).toNat) (by omega) (by omega) (by omega) (by rw [ga2]; exact a2.1) (by rw [gb2]; exact b2.1)
    have hnd : nd + 1 ≤ 513 := by omega
    refine ⟨⟨b0, by omega, by rw [ga2, gb2] at two; omega, hnd⟩, ?_⟩
    intro wa wb ga gb gm ewa ewb ega egb egm
    have j := emI.join (m := (nd - 257).toNat) (a := a.toNat) (b := b.toNat) ⟨i1, i2, i3, i4, i5, i6⟩ (by omega) (by omega) (by omega) b3 a2 b2 a3 b4 i
    rw [en, (by omega : ((nd.toNat : Nat) : Int) = nd), ewa, ewb, ega, egb, ← egm] at j
    refine ⟨?_, by omega, fun h => absurd h (by decide)⟩
    rw [(by omega : (nd + 1 - 257).toNat = (nd - 257).toNat + 1)]
    exact j
theorem emW.fin {w wt gr pa : Nat → Int} {nd : Int} (p : emW w nd 0 wt gr pa) (hn : 257 ≤ nd ∧ nd ≤ 513) : ehE w = ehR w (nd - 257).toNat := emI.fin (wt := wt) (gr := gr) (pa := pa) (by omega) (p.2.2 rfl)
/-- how deep a symbol lies -/
theorem emW.dp {w wt gr pa : Nat → Int} {nd s k : Int} {i : Nat} (p : emW w nd 0 wt gr pa) (hn : 257 ≤ nd ∧ nd ≤ 513) (hw : ∀ x, x < 257 → 0 ≤ w x) (hs : 0 ≤ s ∧ s < 257) (h0 : 0 < wt s.toNat) (hi : (i : Int) ≤ ehN w s.toNat) (hk : k.toNat = pit pa s.toNat i) : k.toNat < nd.toNat ∧ ((pa k.toNat = -1 → (i : Int) = ehN w s.toNat) ∧ (¬ pa k.toNat = -1 → (i : Int) + 1 ≤ ehN w s.toNat ∧ (pa k.toNat).toNat = pit pa s.toNat (i + 1) ∧ 0 ≤ pa k.toNat)) := by
  have e := p.fin hn
  obtain ⟨⟨i1, i2, i3, i4, i5, i6⟩, _, _⟩ := p
  have w0 : 0 < w s.toNat := by rw [← i1 s.toNat (by omega)]; exact h0
  obtain ⟨p1, p2, p3, p4⟩ := i5 s.toNat (by omega) w0
  have en : ehN w s.toNat = (ehR w (nd - 257).toNat).2.2 s.toNat := by unfold ehN; rw [e]
  have l0 := ((ehI.all hw (nd - 257).toNat).2.1 s.toNat (by omega) w0).2.2.2
  by_cases c : i = ((ehR w (nd - 257).toNat).2.2 s.toNat).toNat
  · rw [hk, c]
    refine ⟨by omega, fun _ => by rw [en]; omega, fun h => absurd p3.2 h⟩
  · obtain ⟨q1, q2⟩ := p1 i (by omega)
    rw [hk]
    refine ⟨by omega, fun h => by omega, fun _ => ⟨by omega, rfl, q2⟩⟩
theorem emW.n0 {w wt gr pa : Nat → Int} {nd mo s : Int} (p : emW w nd mo wt gr pa) (hw : ∀ x, x < 257 → 0 ≤ w x) (hs : 0 ≤ s ∧ s < 257) (h0 : ¬ 0 < wt s.toNat) : ehN w s.toNat = 0 := by
  have e := p.1.1 s.toNat (by omega)
  have i := ehI.all hw 257
  unfold ehN ehE
  exact (i.2.2.1 s.toNat (by omega) (by rw [← e]; exact h0)).2.2
def eSz (L z0 : Nat → Int) (B : Int) : Nat → Int := fun x => if (x : Int) < B then L x else z0 x
theorem eSz_p {L z0 : Nat → Int} {B v : Int} (h0 : 0 ≤ B) (e : v = L B.toNat) : gfu (eSz L z0 B) B.toNat v = eSz L z0 (B + 1) := by
  funext x
  by_cases c : x = B.toNat
  · rw [c, gfu_eq]
    unfold eSz
    rw [if_pos (by omega)]
    exact e
  · rw [gfu_ne c]
    unfold eSz
    by_cases c2 : (x : Int) < B
    · rw [if_pos c2, if_pos (by omega)]
    · rw [if_neg c2, if_neg (by omega)]
theorem eSz_f {L z0 : Nat → Int} : ∀ x : Nat, x < 257 → eSz L z0 257 x = L x := fun x hx => if_pos (by omega)
theorem eeJ_cg {a b c d : Nat → Int} (h1 : ∀ x, x < 257 → a x = c x) (h2 : ∀ x, x < 257 → b x = d x) : ∀ x, x < 514 → eeJ a b x = eeJ c d x := by
  intro x hx
  unfold eeJ
  split
  · exact h1 x (by assumption)
  · exact h2 (x - 257) (by omega)
theorem eCd_y {L d0 : Nat → Int} {ln s v : Int} (hl : 1 ≤ ln) (h0 : 0 ≤ s) (h1 : s < 256) (e : L s.toNat = ln) (hv : v = ekF L ln.toNat + ekN L ln s.toNat) : gfu (eCd L d0 ln s) s.toNat v = eCd L d0 ln (s + 1) := by
  funext x
  by_cases c : x = s.toNat
  · rw [c, gfu_eq]
    unfold eCd
    rw [if_pos ⟨⟨by omega, by omega⟩, Or.inr ⟨e, by omega⟩⟩]
    show v = ekF L (L s.toNat).toNat + ekN L (L s.toNat) s.toNat
    rw [e]
    exact hv
  · rw [gfu_ne c]
    unfold eCd
    by_cases c2 : (0 < L x ∧ x < 256) ∧ (L x < ln ∨ (L x = ln ∧ (x : Int) < s))
    · rw [if_pos c2, if_pos ⟨c2.1, by have := c2.2; omega⟩]
    · rw [if_neg c2, if_neg (fun w => c2 ⟨w.1, by have := w.2; omega⟩)]
theorem eCd_n {L d0 : Nat → Int} {ln s : Int} (h0 : 0 ≤ s) (e : ¬ L s.toNat = ln) : eCd L d0 ln s = eCd L d0 ln (s + 1) := by
  funext x
  unfold eCd
  by_cases c2 : (0 < L x ∧ x < 256) ∧ (L x < ln ∨ (L x = ln ∧ (x : Int) < s))
  · rw [if_pos c2, if_pos ⟨c2.1, by have := c2.2; omega⟩]
  · rw [if_neg c2, if_neg]
    intro w
    refine c2 ⟨w.1, ?_⟩
    rcases w.2 with q | ⟨q1, q2⟩
    · exact Or.inl q
    · by_cases c : x = s.toNat
      · rw [c] at q1
        exact absurd q1 e
      · exact Or.inr ⟨q1, by omega⟩
theorem eCd_w {L d0 : Nat → Int} {ln : Int} : eCd L d0 ln 256 = eCd L d0 (ln + 1) 0 := by
  funext x
  unfold eCd
  by_cases c : (0 < L x ∧ x < 256) ∧ (L x < ln ∨ (L x = ln ∧ (x : Int) < 256))
  · rw [if_pos c, if_pos ⟨c.1, by have := c.2; omega⟩]
  · rw [if_neg c, if_neg (fun w => c ⟨w.1, by have := w.1; have := w.2; omega⟩)]
theorem eCd_0 {L d0 : Nat → Int} : eCd L d0 1 0 = d0 := by
  funext x
  unfold eCd
  exact if_neg (fun w => by have := w.1; have := w.2; omega)
theorem eCd_f {L d0 : Nat → Int} (h16 : ∀ j9 : Nat, j9 < 257 → 0 ≤ L j9 ∧ L j9 ≤ 16) : ∀ s : Nat, s < 256 → 0 < L s → eCd L d0 17 0 s = (ekc L s).1 := fun s hs h0 => if_pos ⟨⟨h0, hs⟩, Or.inl (by have := h16 s (by omega); omega)⟩
def gEm (ty : Nat → Nat) (w : Nat → Int) (nd mo : Int) (h : gH) : Prop := ∃ wt gr pa : Nat → Int, gRn 514 ty 39 wt h ∧ gRn 514 ty 40 gr h ∧ gRn 514 ty 41 pa h ∧ emW w nd mo wt gr pa
theorem gEm.fr {ty : Nat → Nat} {w : Nat → Int} {nd mo : Int} {h h' : gH} {l : List Nat} (g : gFr rT ty l h h') (hl : ∀ x ∈ ([39999, 40999, 41999] : List Nat), ¬ x ∈ l) (p : gEm ty w nd mo h) : gEm ty w nd mo h' := by
  obtain ⟨a, b, c, x, y, z, q⟩ := p
  exact ⟨a, b, c, x.fr g (hl _ (by decide)), y.fr g (hl _ (by decide)), z.fr g (hl _ (by decide)), q⟩
theorem gEm.pt {ty : Nat → Nat} {c9 j9 q2 : Nat} {w : Nat → Int} {nd mo : Int} {h h' : gH} (g : ∀ x n, ¬ (x = c9 ∧ n = j9) → h'.2.2.2.2 x n = h.2.2.2.2 x n) (ht : ty c9 = q2) (hq : ∀ x ∈ ([39, 40, 41] : List Nat), q2 ≠ x) (p : gEm ty w nd mo h) : gEm ty w nd mo h' := by
  obtain ⟨a, b, c, x, y, z, q⟩ := p
  exact ⟨a, b, c, x.pt g ht (hq _ (by decide)), y.pt g ht (hq _ (by decide)), z.pt g ht (hq _ (by decide)), q⟩
