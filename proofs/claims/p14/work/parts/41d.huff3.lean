/-! ===== the same codes by nodes and parents ===== -/
def emA (wt pa : Nat → Int) (k : Nat) : Prop := 0 < wt k ∧ pa k = -1
def emL (wt gr pa : Nat → Int) : Nat → Int
  | 0 => -1
  | n + 1 => if (0 < wt n ∧ pa n = -1) ∧ (emL wt gr pa n = -1 ∨ wt n < wt (emL wt gr pa n).toNat ∨ (wt n = wt (emL wt gr pa n).toNat ∧ gr (emL wt gr pa n).toNat < gr n)) then (n : Int) else emL wt gr pa n
def emP (wt gr pa : Nat → Int) (n : Nat) (b : Int) : Prop :=
  (b = -1 ∧ ∀ k, k < n → ¬ emA wt pa k) ∨
  (0 ≤ b ∧ b < n ∧ emA wt pa b.toNat ∧ ∀ k, k < n → emA wt pa k → wt b.toNat < wt k ∨ (wt b.toNat = wt k ∧ gr k ≤ gr b.toNat))
theorem emL_P (wt gr pa : Nat → Int) : ∀ n, emP wt gr pa n (emL wt gr pa n)
  | 0 => Or.inl ⟨rfl, fun j hj => absurd hj (Nat.not_lt_zero _)⟩
  | n + 1 => by
    have ih := emL_P wt gr pa n
    have en : ((n : Int)).toNat = n := by omega
    unfold emL
    split
    · rename_i c
      obtain ⟨c1, c3⟩ := c
      refine Or.inr ⟨by omega, by omega, by rw [en]; exact c1, ?_⟩
      intro j hj h0
      rw [en]
      by_cases e : j = n
      · subst e
        exact Or.inr ⟨rfl, Int.le_refl _⟩
      · rcases ih with ⟨_, a⟩ | ⟨b0, b1, b2, b4⟩
        · exact absurd h0 (a j (by omega))
        · have x := b4 j (by omega) h0
          omega
    · rename_i c
      rcases ih with ⟨e, a⟩ | ⟨b0, b1, b2, b4⟩
      · refine Or.inl ⟨e, ?_⟩
        intro j hj h0
        by_cases e2 : j = n
        · subst e2
          exact c ⟨h0, Or.inl e⟩
        · exact a j (by omega) h0
      · refine Or.inr ⟨b0, by omega, b2, ?_⟩
        intro j hj h0
        by_cases e2 : j = n
        · subst e2
          have : ¬ (wt j < wt (emL wt gr pa j).toNat ∨ (wt j = wt (emL wt gr pa j).toNat ∧ gr (emL wt gr pa j).toNat < gr j)) := fun x => c ⟨h0, Or.inr x⟩
          omega
        · exact b4 j (by omega) h0
def pit (pa : Nat → Int) (s : Nat) : Nat → Nat
  | 0 => s
  | i + 1 => (pa (pit pa s i)).toNat
def emI (w0 : Nat → Int) (m : Nat) (wt gr pa : Nat → Int) : Prop :=
  (∀ k, k < 257 → wt k = w0 k) ∧
  (∀ k, k < 257 + m → emA wt pa k → 0 ≤ gr k ∧ gr k < 257 ∧ (ehR w0 m).1 (gr k).toNat = wt k) ∧
  (∀ k j, k < 257 + m → j < 257 + m → emA wt pa k → emA wt pa j → gr k = gr j → k = j) ∧
  (∀ x : Nat, x < 257 → 0 < (ehR w0 m).1 x → ∃ k, k < 257 + m ∧ emA wt pa k ∧ gr k = (x : Int)) ∧
  (∀ x, x < 257 → 0 < w0 x → (∀ i, i < ((ehR w0 m).2.2 x).toNat → pit pa x i < 257 + m ∧ 0 ≤ pa (pit pa x i)) ∧ pit pa x ((ehR w0 m).2.2 x).toNat < 257 + m ∧ emA wt pa (pit pa x ((ehR w0 m).2.2 x).toNat) ∧ gr (pit pa x ((ehR w0 m).2.2 x).toNat) = (ehR w0 m).2.1 x) ∧
  (∀ k, 257 + m ≤ k → k < 514 → pa k = -1)
theorem emI.zero {w0 wt gr pa : Nat → Int} (h1 : ∀ k, k < 257 → wt k = w0 k) (h2 : ∀ k : Nat, k < 514 → gr k = (k : Int)) (h3 : ∀ k, k < 514 → pa k = -1) : emI w0 0 wt gr pa := by
  refine ⟨h1, ?_, ?_, ?_, ?_, fun k _ hk => h3 k hk⟩
  · intro k hk _
    have e := h2 k (by omega)
    refine ⟨by omega, by omega, ?_⟩
    show w0 (gr k).toNat = wt k
    rw [e, (by omega : ((k : Int)).toNat = k)]
    exact (h1 k hk).symm
  · intro k j hk hj _ _ e
    rw [h2 k (by omega), h2 j (by omega)] at e
    omega
  · intro x hx h0
    have h0 : 0 < w0 x := h0
    exact ⟨x, hx, ⟨by rw [h1 x hx]; exact h0, h3 x (by omega)⟩, h2 x (by omega)⟩
  · intro x hx h0
    refine ⟨fun i hi => absurd hi (Nat.not_lt_zero _), hx, ⟨?_, h3 x (by omega)⟩, h2 x (by omega)⟩
    show 0 < wt x
    rw [h1 x hx]
    exact h0
theorem emI.a {w0 wt gr pa : Nat → Int} {m : Nat} (i : emI w0 m wt gr pa) : (emL wt gr pa (257 + m) = -1 ∧ ehA (ehR w0 m) = -1) ∨ (0 ≤ emL wt gr pa (257 + m) ∧ emL wt gr pa (257 + m) < 257 + m ∧ emA wt pa (emL wt gr pa (257 + m)).toNat ∧ ehA (ehR w0 m) = gr (emL wt gr pa (257 + m)).toNat) := by
  obtain ⟨i1, i2, i3, i4, i5, i6⟩ := i
  rcases emL_P wt gr pa (257 + m) with ⟨e, a⟩ | ⟨b0, b1, b2, b4⟩
  · refine Or.inl ⟨e, ?_⟩
    refine ehL_uq (Or.inl ⟨rfl, ?_⟩)
    intro j hj h0
    obtain ⟨k, k1, k2, _⟩ := i4 j hj h0
    exact absurd k2 (a k k1)
  · refine Or.inr ⟨b0, b1, b2, ?_⟩
    obtain ⟨g0, g1, g2⟩ := i2 _ (by omega) b2
    refine ehL_uq (Or.inr ⟨g0, g1, ?_, by omega, ?_⟩)
    · rw [g2]
      exact b2.1
    · intro j hj h0 _
      obtain ⟨k, k1, k2, k3⟩ := i4 j hj h0
      have x := b4 k k1 k2
      have y := (i2 k k1 k2).2.2
      rw [k3, (by omega : ((j : Int)).toNat = j)] at y
      rw [g2, y]
      omega
theorem emI.b {w0 wt gr pa : Nat → Int} {m a : Nat} {v : Int} (i : emI w0 m wt gr pa) (ha : a < 257 + m) (aa : emA wt pa a) (ea : ehA (ehR w0 m) = gr a) (hv : ¬ v = -1) : (emL wt gr (gfu pa a v) (257 + m) = -1 ∧ ehB (ehR w0 m) = -1) ∨ (0 ≤ emL wt gr (gfu pa a v) (257 + m) ∧ emL wt gr (gfu pa a v) (257 + m) < 257 + m ∧ emA wt pa (emL wt gr (gfu pa a v) (257 + m)).toNat ∧ ¬ (emL wt gr (gfu pa a v) (257 + m)).toNat = a ∧ ehB (ehR w0 m) = gr (emL wt gr (gfu pa a v) (257 + m)).toNat) := by
  obtain ⟨i1, i2, i3, i4, i5, i6⟩ := i
  have act : ∀ k, emA wt (gfu pa a v) k ↔ (emA wt pa k ∧ ¬ k = a) := by
    intro k
    unfold emA
    by_cases c : k = a
    · subst c
      rw [gfu_eq]
      exact ⟨fun x => absurd x.2 hv, fun x => absurd rfl x.2⟩
    · rw [gfu_ne c]
      exact ⟨fun x => ⟨x, c⟩, fun x => x.1⟩
  rcases emL_P wt gr (gfu pa a v) (257 + m) with ⟨e, n⟩ | ⟨b0, b1, b2, b4⟩
  · refine Or.inl ⟨e, ?_⟩
    refine ehL_uq (Or.inl ⟨rfl, ?_⟩)
    intro j hj h0
    obtain ⟨k, k1, k2, k3⟩ := i4 j hj h0
    by_cases c : k = a
    · subst c
      rw [ea, k3]
    · exact absurd ((act k).2 ⟨k2, c⟩) (n k k1)
  · have b5 := (act _).1 b2
    refine Or.inr ⟨b0, b1, b5.1, b5.2, ?_⟩
    obtain ⟨g0, g1, g2⟩ := i2 _ (by omega) b5.1
    refine ehL_uq (Or.inr ⟨g0, g1, ?_, ?_, ?_⟩)
    · rw [g2]
      exact b2.1
    · rw [ea]
      intro c
      exact b5.2 (i3 _ _ (by omega) ha b5.1 aa c)
    · intro j hj h0 hne
      obtain ⟨k, k1, k2, k3⟩ := i4 j hj h0
      have c : ¬ k = a := fun c => hne (by rw [ea, ← c, k3])
      have x := b4 k k1 ((act k).2 ⟨k2, c⟩)
      have y := (i2 k k1 k2).2.2
      rw [k3, (by omega : ((j : Int)).toNat = j)] at y
      rw [g2, y]
      omega
theorem pit_cg {pa pb : Nat → Int} {x : Nat} : ∀ {n : Nat}, (∀ i, i < n → pb (pit pa x i) = pa (pit pa x i)) → pit pb x n = pit pa x n
  | 0, _ => rfl
  | n + 1, h => by
    show (pb (pit pb x n)).toNat = (pa (pit pa x n)).toNat
    rw [pit_cg (n := n) (fun i hi => h i (by omega)), h n (by omega)]
theorem emI.join {w0 wt gr pa : Nat → Int} {m a b : Nat} (i : emI w0 m wt gr pa) (hm : 257 + m < 514) (ha : a < 257 + m) (hb : b < 257 + m) (hab : ¬ b = a) (aa : emA wt pa a) (ab : emA wt pa b) (ea : ehA (ehR w0 m) = gr a) (eb : ehB (ehR w0 m) = gr b) (hi : ehI w0 (ehR w0 m)) :
    emI w0 (m + 1) (gfu wt (257 + m) (wt a + wt b)) (gfu gr (257 + m) (if gr b < gr a then gr a else gr b)) (gfu (gfu pa a ((257 + m : Nat) : Int)) b ((257 + m : Nat) : Int)) := by
  obtain ⟨i1, i2, i3, i4, i5, i6⟩ := i
  obtain ⟨ga0, ga1, ga2⟩ := i2 a ha aa
  obtain ⟨gb0, gb1, gb2⟩ := i2 b hb ab
  have gab : ¬ gr a = gr b := fun c => hab (i3 b a hb ha ab aa c.symm)
  have eS : ehR w0 (m + 1) = ehJ (gr a).toNat (gr b).toNat (ehR w0 m) := by
    show ehS (ehR w0 m) = _
    rcases ehS_of (ehR w0 m) with ⟨c, _, _⟩ | ⟨_, _, _, e⟩
    · omega
    · rw [e, ea, eb]
  have emx : ((ehm (gr a).toNat (gr b).toNat : Nat) : Int) = (if gr b < gr a then gr a else gr b) := by
    unfold ehm
    by_cases c : gr b < gr a
    · rw [if_pos c, if_neg (by omega)]
      omega
    · rw [if_neg c, if_pos (by omega)]
      omega
  have pN : pa (257 + m) = -1 := i6 _ (Nat.le_refl _) hm
  have act : ∀ k, k < 257 + m → (emA (gfu wt (257 + m) (wt a + wt b)) (gfu (gfu pa a ((257 + m : Nat) : Int)) b ((257 + m : Nat) : Int)) k ↔ (emA wt pa k ∧ ¬ k = a ∧ ¬ k = b)) := by
    intro k hk
    unfold emA
    rw [gfu_ne (by omega : k ≠ 257 + m)]
    by_cases c : k = b
    · subst c
      rw [gfu_eq]
      exact ⟨fun x => absurd x.2 (by omega), fun x => absurd rfl x.2.2⟩
    · rw [gfu_ne c]
      by_cases c2 : k = a
      · subst c2
        rw [gfu_eq]
        exact ⟨fun x => absurd x.2 (by omega), fun x => absurd rfl x.2.1⟩
      · rw [gfu_ne c2]
        exact ⟨fun x => ⟨x, c2, c⟩, fun x => x.1⟩
  have actN : emA (gfu wt (257 + m) (wt a + wt b)) (gfu (gfu pa a ((257 + m : Nat) : Int)) b ((257 + m : Nat) : Int)) (257 + m) := by
    unfold emA
    rw [gfu_eq, gfu_ne (by omega), gfu_ne (by omega)]
    exact ⟨by have := aa.1; have := ab.1; omega, pN⟩
  have grN : gfu gr (257 + m) (if gr b < gr a then gr a else gr b) (257 + m) = (if gr b < gr a then gr a else gr b) := gfu_eq
  refine ⟨?_, ?_, ?_, ?_, ?_, ?_⟩
  · intro k hk
    rw [gfu_ne (by omega)]
    exact i1 k hk
  · intro k hk h0
    rw [eS]
    by_cases c : k = 257 + m
    · subst c
      rw [grN, ← emx, (by omega : (((ehm (gr a).toNat (gr b).toNat : Nat) : Int)).toNat = ehm (gr a).toNat (gr b).toNat), ehJ_w, if_pos rfl, ga2, gb2, gfu_eq]
      refine ⟨by omega, ?_, rfl⟩
      rw [emx]
      split <;> omega
    · obtain ⟨k0, k1, k2⟩ := (act k (by omega)).1 h0
      obtain ⟨g0, g1, g2⟩ := i2 k (by omega) k0
      rw [gfu_ne c, gfu_ne c]
      have na : ¬ gr k = gr a := fun e => k1 (i3 k a (by omega) ha k0 aa e)
      have nb : ¬ gr k = gr b := fun e => k2 (i3 k b (by omega) hb k0 ab e)
      refine ⟨g0, g1, ?_⟩
      rw [ehJ_w, if_neg, if_neg (by omega)]
      · exact g2
      · intro e
        have : gr k = ((ehm (gr a).toNat (gr b).toNat : Nat) : Int) := by omega
        rw [emx] at this
        split at this <;> omega
  · intro k j hk hj k0 j0 e
    by_cases c : k = 257 + m
    · by_cases c2 : j = 257 + m
      · omega
      · obtain ⟨j1, j2, j3⟩ := (act j (by omega)).1 j0
        rw [c, grN, gfu_ne c2] at e
        split at e
        · exact absurd (i3 j a (by omega) ha j1 aa e.symm) j2
        · exact absurd (i3 j b (by omega) hb j1 ab e.symm) j3
    · obtain ⟨k1, k2, k3⟩ := (act k (by omega)).1 k0
      by_cases c2 : j = 257 + m
      · rw [c2, grN, gfu_ne c] at e
        split at e
        · exact absurd (i3 k a (by omega) ha k1 aa e) k2
        · exact absurd (i3 k b (by omega) hb k1 ab e) k3
      · obtain ⟨j1, j2, j3⟩ := (act j (by omega)).1 j0
        rw [gfu_ne c, gfu_ne c2] at e
        exact i3 k j (by omega) (by omega) k1 j1 e
  · intro x hx h0
    rw [eS, ehJ_w] at h0
    by_cases c : x = ehm (gr a).toNat (gr b).toNat
    · exact ⟨257 + m, by omega, actN, by rw [grN, ← emx, c]⟩
    · rw [if_neg c] at h0
      by_cases c2 : x = (gr a).toNat ∨ x = (gr b).toNat
      · rw [if_pos c2] at h0
        omega
      · rw [if_neg c2] at h0
        obtain ⟨k, k1, k2, k3⟩ := i4 x hx h0
        refine ⟨k, by omega, (act k k1).2 ⟨k2, fun e => c2 (Or.inl (by rw [← e]; omega)), fun e => c2 (Or.inr (by rw [← e]; omega))⟩, ?_⟩
        rw [gfu_ne (by omega)]
        exact k3
  · intro x hx h0
    obtain ⟨p1, p2, p3, p4⟩ := i5 x hx h0
    have l0 := (hi.2.1 x hx h0).2.2.2
    have same : ∀ i, i < ((ehR w0 m).2.2 x).toNat → gfu (gfu pa a ((257 + m : Nat) : Int)) b ((257 + m : Nat) : Int) (pit pa x i) = pa (pit pa x i) := by
      intro i hi
      obtain ⟨q1, q2⟩ := p1 i hi
      have na : pit pa x i ≠ a := fun e => by rw [e, aa.2] at q2; omega
      have nb : pit pa x i ≠ b := fun e => by rw [e, ab.2] at q2; omega
      rw [gfu_ne nb, gfu_ne na]
    have eq : ∀ n, n ≤ ((ehR w0 m).2.2 x).toNat → pit (gfu (gfu pa a ((257 + m : Nat) : Int)) b ((257 + m : Nat) : Int)) x n = pit pa x n := fun n hn => pit_cg (fun i hi => same i (by omega))
    rw [eS, ehJ_l, ehJ_g]
    by_cases c : (ehR w0 m).2.1 x = ((gr a).toNat : Int) ∨ (ehR w0 m).2.1 x = ((gr b).toNat : Int)
    · rw [if_pos c, if_pos c, (by omega : ((ehR w0 m).2.2 x + 1).toNat = ((ehR w0 m).2.2 x).toNat + 1)]
      have root : pit pa x ((ehR w0 m).2.2 x).toNat = a ∨ pit pa x ((ehR w0 m).2.2 x).toNat = b := by
        rcases c with c | c
        · exact Or.inl (i3 _ _ p2 ha p3 aa (by rw [p4]; omega))
        · exact Or.inr (i3 _ _ p2 hb p3 ab (by rw [p4]; omega))
      have pr : gfu (gfu pa a ((257 + m : Nat) : Int)) b ((257 + m : Nat) : Int) (pit pa x ((ehR w0 m).2.2 x).toNat) = ((257 + m : Nat) : Int) := by
        rcases root with e | e
        · rw [e, gfu_ne (fun e => hab e.symm), gfu_eq]
        · rw [e, gfu_eq]
      have last : pit (gfu (gfu pa a ((257 + m : Nat) : Int)) b ((257 + m : Nat) : Int)) x (((ehR w0 m).2.2 x).toNat + 1) = 257 + m := by
        show (gfu (gfu pa a ((257 + m : Nat) : Int)) b ((257 + m : Nat) : Int) (pit (gfu (gfu pa a ((257 + m : Nat) : Int)) b ((257 + m : Nat) : Int)) x ((ehR w0 m).2.2 x).toNat)).toNat = _
        rw [eq _ (Nat.le_refl _), pr]
        omega
      rw [last]
      refine ⟨?_, by omega, actN, by rw [grN, emx]⟩
      intro i hi
      rw [eq i (by omega)]
      by_cases c3 : i = ((ehR w0 m).2.2 x).toNat
      · rw [c3, pr]
        omega
      · have := p1 i (by omega)
        rw [same i (by omega)]
        omega
    · rw [if_neg c, if_neg c, eq _ (Nat.le_refl _)]
      have na : ¬ pit pa x ((ehR w0 m).2.2 x).toNat = a := fun e => c (Or.inl (by rw [← p4, e]; omega))
      have nb : ¬ pit pa x ((ehR w0 m).2.2 x).toNat = b := fun e => c (Or.inr (by rw [← p4, e]; omega))
      refine ⟨?_, by omega, (act _ p2).2 ⟨p3, na, nb⟩, ?_⟩
      · intro i hi
        rw [eq i (by omega), same i hi]
        have := p1 i hi
        omega
      · rw [gfu_ne (by omega)]
        exact p4
  · intro k hk hk2
    rw [gfu_ne (by omega), gfu_ne (by omega)]
    exact i6 k (by omega) hk2
/-- nothing is left to join: the lengths stand -/
theorem emI.fin {w0 wt gr pa : Nat → Int} {m : Nat} (hm : m ≤ 257) (hb : ehB (ehR w0 m) = -1) : ehE w0 = ehR w0 m := ehE_of hm (by
  rcases ehS_of (ehR w0 m) with ⟨_, e, _⟩ | ⟨c, _, _, _⟩
  · exact e
  · omega)
